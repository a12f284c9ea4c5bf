/** Promise 8: manager. */
public final class ManagerTest {
    public static void main(String[] args) {
        timesGoOn();
        firstAskingCounts();
        longWaitFromSixthTime();
        hundredGoodFramesForget();
        goodFramesMustComeInARow();
        flagEventsMayComeBetween();
        listeningNodesCountToo();
        offBreaksTheRow();
        Check.finish();
    }

    private static void timesGoOn() {
        CanErrors bus = Check.withNodes(2);
        Check.due("unknown before range", bus.manager(3, -1), -1);
        Check.due("unknown, far time", bus.manager(0, 1000), -1);
        Check.due("below 0", bus.manager(1, -1), -2);
        Check.due("least", bus.manager(1, Long.MIN_VALUE), -2);
        Check.due("0", bus.manager(1, 0), 1);
        Check.due("7", bus.manager(1, 7), 1);
        Check.due("7 again", bus.manager(2, 7), 1);
        Check.due("6 for another node", bus.manager(2, 6), -2);
        Check.due("a refused time counts not", bus.manager(2, 7), 1);
        Check.switchOff(bus);
        Check.due("too early while off", bus.manager(1, 6), -2);
        Check.due("first at 8", bus.manager(1, 8), 0);
        Check.due("17", bus.manager(1, 17), 0);
        Check.due("the other goes on", bus.manager(2, 18), 1);
        Check.due("before the other's", bus.manager(1, 17), -2);
        Check.due("18", bus.manager(1, 18), 1);
        Check.due("most", bus.manager(2, Long.MAX_VALUE), 1);
        Check.due("most again", bus.manager(1, Long.MAX_VALUE), 1);
        Check.due("less than most", bus.manager(1, Long.MAX_VALUE - 1), -2);
    }

    private static void firstAskingCounts() {
        CanErrors bus = Check.withNodes(1);
        bus.manager(1, 100);
        Check.switchOff(bus);
        Check.due("asking before was none", bus.manager(1, 1000), 0);
        Check.due("same time", bus.manager(1, 1000), 0);
        Check.due("9 later", bus.manager(1, 1009), 0);
        Check.due("10 later than the first", bus.manager(1, 1010), 1);
        Check.due("stays let", bus.manager(1, 1010), 1);
        bus.recover(1, 128);
        Check.due("not off", bus.manager(1, 1011), 1);
        Check.switchOff(bus);
        Check.due("a first asking of its own", bus.manager(1, 5000), 0);
        Check.due("far later", bus.manager(1, Long.MAX_VALUE), 1);
    }

    private static void longWaitFromSixthTime() {
        CanErrors bus = Check.withNodes(1);
        offTimes(bus, 5, 0);
        fastOff(bus);
        Check.comeBack(bus, 1000, 100);
        fastOff(bus);
        Check.comeBack(bus, 2000, 100);
    }

    private static void hundredGoodFramesForget() {
        CanErrors bus = Check.withNodes(1);
        offTimes(bus, 5, 0);
        Check.repeat(bus, 50, 0, true);
        Check.repeat(bus, 50, 0, false);
        offTimes(bus, 5, 1000);
        fastOff(bus);
        Check.comeBack(bus, 2000, 100);

        bus = Check.withNodes(1);
        offTimes(bus, 5, 0);
        Check.repeat(bus, 99, 0, true);
        fastOff(bus);
        Check.comeBack(bus, 2000, 100);

        bus = Check.withNodes(1);
        offTimes(bus, 5, 0);
        Check.repeat(bus, 120, 0, false);
        bus.event(1, 1, true);
        fastOff(bus);
        Check.comeBack(bus, 2000, 10);
    }

    private static void goodFramesMustComeInARow() {
        int[] errors = {1, 2, 3, 4, 5, 9, 10};
        for (int kind : errors) {
            CanErrors bus = Check.withNodes(1);
            offTimes(bus, 5, 0);
            Check.repeat(bus, 99, 0, false);
            bus.event(1, kind, false);
            Check.repeat(bus, 99, 0, false);
            fastOff(bus);
            Check.comeBack(bus, 2000, 100);
        }
    }

    private static void flagEventsMayComeBetween() {
        CanErrors bus = Check.withNodes(1);
        offTimes(bus, 5, 0);
        Check.repeat(bus, 98, 0, false);
        bus.event(1, 6, false);
        bus.event(1, 7, true);
        bus.event(1, 8, false);
        Check.repeat(bus, 1, 0, false);
        bus.two(1, 6, 8);
        Check.repeat(bus, 1, 0, false);
        fastOff(bus);
        Check.comeBack(bus, 2000, 10);
    }

    private static void listeningNodesCountToo() {
        CanErrors bus = Check.withNodes(1);
        offTimes(bus, 5, 0);
        Check.repeat(bus, 40, 0, false);
        bus.listen(1, true);
        Check.repeat(bus, 40, 0, false);
        bus.event(1, 0, true);
        bus.listen(1, false);
        Check.repeat(bus, 20, 0, false);
        fastOff(bus);
        Check.comeBack(bus, 2000, 10);

        bus = Check.withNodes(1);
        offTimes(bus, 5, 0);
        Check.repeat(bus, 99, 0, false);
        bus.listen(1, true);
        bus.event(1, 0, true);
        bus.event(1, 3, false);
        Check.repeat(bus, 99, 0, false);
        bus.listen(1, false);
        fastOff(bus);
        Check.comeBack(bus, 2000, 100);
    }

    private static void offBreaksTheRow() {
        CanErrors bus = Check.withNodes(1);
        offTimes(bus, 4, 0);
        Check.repeat(bus, 60, 0, false);
        offByFlagEventsAlone(bus);
        Check.comeBack(bus, 1000, 10);
        Check.repeat(bus, 60, 0, false);
        offByFlagEventsAlone(bus);
        Check.comeBack(bus, 2000, 100);
    }

    private static void offTimes(CanErrors bus, int times, long from) {
        for (int i = 0; i < times; i++) {
            fastOff(bus);
            Check.comeBack(bus, from + i * 20L, 10);
        }
    }

    /** Two counts of 8 a call, since an object is used for at most 512 calls. */
    private static void fastOff(CanErrors bus) {
        bus.event(1, 1, true);
        offByFlagEventsAlone(bus);
    }

    private static void offByFlagEventsAlone(CanErrors bus) {
        int state = bus.event(1, 7, true);
        for (int i = 0; i < 16 && state != 2; i++) {
            state = bus.two(1, 7, 8);
        }
        Check.due("off", state, 2);
    }
}
