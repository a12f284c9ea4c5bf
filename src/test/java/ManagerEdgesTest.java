/** The edges of the MANAGER in COMING BACK, and of promise 8. */
public final class ManagerEdgesTest {
    public static void main(String[] args) {
        timesBelow0();
        sameTimeAgain();
        lessThanOneBefore();
        oneBeforeForAnyNode();
        timesOfNodesNotOffCount();
        refusedTimesDoNotCount();
        firstTimeIsOnlyNoted();
        tenOrMore();
        laterAskingsAreNotTheFirst();
        farApart();
        atTheEndOfLong();
        letStaysLet();
        firstAskingOfItsOwn();
        nodesWaitApart();
        Check.finish();
    }

    /** "-2 the time is below 0" */
    private static void timesBelow0() {
        long[] below = {-1, -2, -10, -100, Integer.MIN_VALUE, Integer.MIN_VALUE - 1L, -(1L << 32),
            Long.MIN_VALUE, Long.MIN_VALUE + 1};
        CanErrors bus = Check.withNodes(1);
        for (long time : below) {
            Check.due("not OFF at " + time, bus.manager(1, time), -2);
        }
        Check.due("0 is taken", bus.manager(1, 0), 1);
        bus = Check.withNodes(1);
        Check.switchOffFast(bus);
        for (long time : below) {
            Check.due("OFF at " + time, bus.manager(1, time), -2);
        }
        Check.due("0 is the first asking", bus.manager(1, 0), 0);
        Check.due("10 behind it", bus.manager(1, 10), 1);
    }

    /** "or less than one before": the same is not less. */
    private static void sameTimeAgain() {
        long[] times = {0, 1, Integer.MAX_VALUE, 1L << 31, 1L << 32, Long.MAX_VALUE};
        CanErrors bus = Check.withNodes(2);
        for (long time : times) {
            Check.due("1 at " + time, bus.manager(1, time), 1);
            Check.due("1 again at " + time, bus.manager(1, time), 1);
            Check.due("2 at " + time, bus.manager(2, time), 1);
        }
    }

    private static void lessThanOneBefore() {
        long[] times = {1, 2, Integer.MAX_VALUE, 1L << 31, 1L << 32, Long.MAX_VALUE};
        for (long time : times) {
            CanErrors bus = Check.withNodes(1);
            Check.due("at " + time, bus.manager(1, time), 1);
            Check.due("one less than " + time, bus.manager(1, time - 1), -2);
            Check.due("0 behind " + time, bus.manager(1, 0), -2);
            Check.due("-1 behind " + time, bus.manager(1, -1), -2);
            Check.due("least behind " + time, bus.manager(1, Long.MIN_VALUE), -2);
            Check.due("the same as " + time, bus.manager(1, time), 1);
        }
    }

    /** "(for any node)" */
    private static void oneBeforeForAnyNode() {
        CanErrors bus = Check.withNodes(100);
        Check.due("100 at 50", bus.manager(100, 50), 1);
        Check.due("1 at 49", bus.manager(1, 49), -2);
        Check.due("1 at 50", bus.manager(1, 50), 1);
        Check.due("99 at 51", bus.manager(99, 51), 1);
        Check.due("100 at 50 again", bus.manager(100, 50), -2);
    }

    /** "(which counts also if it is not OFF)": for the order of times, not as a first asking. */
    private static void timesOfNodesNotOffCount() {
        CanErrors bus = Check.withNodes(2);
        Check.due("2 at 30", bus.manager(2, 30), 1);
        Check.due("1 at 20, not OFF", bus.manager(1, 20), -2);
        Check.switchOffFast(bus);
        Check.due("1 at 29, OFF", bus.manager(1, 29), -2);
        Check.due("1 at 30", bus.manager(1, 30), 0);
        Check.due("2 at 40", bus.manager(2, 40), 1);
        Check.due("1 at 39", bus.manager(1, 39), -2);
        Check.due("not let by what is refused", bus.recover(1, 128), -3);
        Check.due("1 at 40", bus.manager(1, 40), 1);
    }

    /** "REFUSALS change nothing": neither the order of times nor a first asking. */
    private static void refusedTimesDoNotCount() {
        CanErrors bus = Check.withNodes(1);
        Check.due("unknown at the far end", bus.manager(2, Long.MAX_VALUE), -1);
        Check.due("unknown 0 at the far end", bus.manager(0, Long.MAX_VALUE), -1);
        Check.due("5", bus.manager(1, 5), 1);
        Check.switchOffFast(bus);
        Check.due("4 is refused", bus.manager(1, 4), -2);
        Check.due("-1 is refused", bus.manager(1, -1), -2);
        Check.due("14 is the first", bus.manager(1, 14), 0);
        Check.due("23", bus.manager(1, 23), 0);
        Check.due("13 is refused", bus.manager(1, 13), -2);
        Check.due("24", bus.manager(1, 24), 1);
        Check.due("23 is refused when let", bus.manager(1, 23), -2);
        Check.due("let still", bus.recover(1, 128), 0);
    }

    /** "the first time that it is asked is noted, and it waits", however late that is. */
    private static void firstTimeIsOnlyNoted() {
        long[] times = {0, 1, 9, 10, 11, 99, 100, 101, Integer.MAX_VALUE, Long.MAX_VALUE};
        for (long time : times) {
            CanErrors bus = Check.withNodes(1);
            Check.switchOffFast(bus);
            Check.due("first at " + time, bus.manager(1, time), 0);
            Check.due("waits behind " + time, bus.recover(1, 128), -3);
            Check.due("again at " + time, bus.manager(1, time), 0);
        }
    }

    /** "later than that one by 10 or more" */
    private static void tenOrMore() {
        long[] firsts = {0, 1, 7, Integer.MAX_VALUE - 5L, (1L << 32) - 5, Long.MAX_VALUE - 11};
        for (long first : firsts) {
            for (int later = 0; later <= 11; later++) {
                CanErrors bus = Check.withNodes(1);
                Check.switchOffFast(bus);
                bus.manager(1, first);
                Check.due(later + " behind " + first, bus.manager(1, first + later), later < 10 ? 0 : 1);
                Check.due("rows " + later + " behind " + first, bus.recover(1, 128), later < 10 ? -3 : 0);
            }
        }
    }

    /** It is later than the FIRST time that counts, not than the last one. */
    private static void laterAskingsAreNotTheFirst() {
        CanErrors bus = Check.withNodes(1);
        Check.switchOffFast(bus);
        for (int time = 3; time < 13; time++) {
            Check.due("at " + time, bus.manager(1, time), 0);
        }
        Check.due("at 13", bus.manager(1, 13), 1);
    }

    private static void farApart() {
        long[] ends = {Integer.MAX_VALUE, 1L << 31, 1L << 32, (1L << 32) + 5, Long.MAX_VALUE - 1, Long.MAX_VALUE};
        for (long end : ends) {
            CanErrors bus = Check.withNodes(1);
            Check.switchOffFast(bus);
            Check.due("first at 0", bus.manager(1, 0), 0);
            Check.due("then at " + end, bus.manager(1, end), 1);
        }
    }

    /** There is no time 10 later: first + 10 would wrap around, and must not let it. */
    private static void atTheEndOfLong() {
        CanErrors bus = Check.withNodes(1);
        Check.switchOffFast(bus);
        Check.due("first, 9 before the end", bus.manager(1, Long.MAX_VALUE - 9), 0);
        Check.due("at the end", bus.manager(1, Long.MAX_VALUE), 0);
        Check.due("never let", bus.recover(1, 128), -3);
        bus = Check.withNodes(1);
        Check.switchOffFast(bus);
        Check.due("first, 10 before the end", bus.manager(1, Long.MAX_VALUE - 10), 0);
        Check.due("let at the end", bus.manager(1, Long.MAX_VALUE), 1);
    }

    private static void letStaysLet() {
        CanErrors bus = Check.withNodes(1);
        Check.switchOffFast(bus);
        bus.manager(1, 0);
        Check.due("let", bus.manager(1, 10), 1);
        Check.due("at the same time", bus.manager(1, 10), 1);
        Check.due("with some rows", bus.recover(1, 127), 2);
        Check.due("later", bus.manager(1, 11), 1);
        Check.due("rows were kept", bus.recover(1, 1), 0);
        Check.due("not OFF at the same time", bus.manager(1, 11), 1);
    }

    /** "(each time that it is OFF from a first asking of its own)" */
    private static void firstAskingOfItsOwn() {
        CanErrors bus = Check.withNodes(1);
        bus.manager(1, 5);
        Check.switchOffFast(bus);
        Check.due("asked before it was OFF", bus.manager(1, 15), 0);
        Check.due("let", bus.manager(1, 25), 1);
        bus.recover(1, 128);
        Check.due("asked when back", bus.manager(1, 30), 1);
        Check.switchOffFast(bus);
        Check.due("a second first", bus.manager(1, 100), 0);
        Check.due("9 later", bus.manager(1, 109), 0);
        Check.due("10 later", bus.manager(1, 110), 1);
    }

    private static void nodesWaitApart() {
        CanErrors bus = Check.withNodes(2);
        Check.switchOffFast(bus);
        for (int i = 0; i < 32; i++) {
            bus.event(2, 1, true);
        }
        Check.due("1 first at 0", bus.manager(1, 0), 0);
        Check.due("2 first at 5", bus.manager(2, 5), 0);
        Check.due("1 at 10", bus.manager(1, 10), 1);
        Check.due("2 at 14", bus.manager(2, 14), 0);
        Check.due("2 is not let", bus.recover(2, 128), -3);
        Check.due("2 at 15", bus.manager(2, 15), 1);
        Check.due("1 is back", bus.recover(1, 128), 0);
        Check.due("2 is not", bus.state(2), 2);
    }
}
