/** Promise 8: manager. */
public final class ManagerTest {
    public static void main(String[] args) {
        timesGoOn();
        firstAskingCounts();
        longWaitFromSixthTime();
        hundredGoodFramesForget();
        Check.finish();
    }

    private static void timesGoOn() {
        CanErrors bus = Check.withNodes(2);
        Check.due("unknown before range", bus.manager(3, -1), -1);
        Check.due("unknown, far time", bus.manager(0, 1000), -1);
        Check.due("below 0", bus.manager(1, -1), -2);
        Check.due("least", bus.manager(1, Long.MIN_VALUE), -2);
        Check.due("0", bus.manager(1, 0), 1);
        Check.due("7", bus.manager(1, 7), 1);
        Check.due("7 again", bus.manager(2, 7), 1);
        Check.due("6 for another node", bus.manager(2, 6), -2);
        Check.due("a refused time counts not", bus.manager(2, 7), 1);
        Check.switchOff(bus);
        Check.due("too early while off", bus.manager(1, 6), -2);
        Check.due("first at 8", bus.manager(1, 8), 0);
        Check.due("17", bus.manager(1, 17), 0);
        Check.due("the other goes on", bus.manager(2, 18), 1);
        Check.due("before the other's", bus.manager(1, 17), -2);
        Check.due("18", bus.manager(1, 18), 1);
        Check.due("most", bus.manager(2, Long.MAX_VALUE), 1);
        Check.due("most again", bus.manager(1, Long.MAX_VALUE), 1);
        Check.due("less than most", bus.manager(1, Long.MAX_VALUE - 1), -2);
    }

    private static void firstAskingCounts() {
        CanErrors bus = Check.withNodes(1);
        bus.manager(1, 100);
        Check.switchOff(bus);
        Check.due("asking before was none", bus.manager(1, 1000), 0);
        Check.due("same time", bus.manager(1, 1000), 0);
        Check.due("9 later", bus.manager(1, 1009), 0);
        Check.due("10 later than the first", bus.manager(1, 1010), 1);
        Check.due("stays let", bus.manager(1, 1010), 1);
        bus.recover(1, 128);
        Check.due("not off", bus.manager(1, 1011), 1);
        Check.switchOff(bus);
        Check.due("a first asking of its own", bus.manager(1, 5000), 0);
        Check.due("far later", bus.manager(1, Long.MAX_VALUE), 1);
    }

    private static void longWaitFromSixthTime() {
        CanErrors bus = Check.backAgain(5, 0);
        Check.switchOffFast(bus);
        Check.comeBack(bus, 1000, 100);
        Check.switchOffFast(bus);
        Check.comeBack(bus, 2000, 100);
    }

    private static void hundredGoodFramesForget() {
        CanErrors bus = Check.backAgain(5, 0);
        Check.repeat(bus, 50, 0, true);
        Check.repeat(bus, 50, 0, false);
        Check.backAgain(bus, 5, 1000);
        Check.switchOffFast(bus);
        Check.comeBack(bus, 2000, 100);
    }
}
