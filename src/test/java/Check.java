/** What the tests share: comparing answers, and short ways to bring a node somewhere. */
final class Check {
    private static int wrong = 0;

    private Check() {
    }

    static void due(String what, long got, long want) {
        if (got != want) {
            wrong++;
            System.out.println(what + ": answered " + got + ", due is " + want);
        }
    }

    static void finish() {
        if (wrong != 0) {
            System.out.println(wrong + " answers are not as due");
            System.exit(1);
        }
    }

    static CanErrors withNodes(int count) {
        CanErrors bus = new CanErrors();
        for (int i = 1; i <= count; i++) {
            due("node() number " + i, bus.node(), i);
        }
        return bus;
    }

    static void repeat(CanErrors bus, int times, int kind, boolean sending) {
        for (int i = 0; i < times; i++) {
            bus.event(1, kind, sending);
        }
    }

    /** Brings node 1, whose counter of SENDING is 0, to OFF. */
    static void switchOff(CanErrors bus) {
        repeat(bus, 32, 1, true);
        due("switched off", bus.state(1), 2);
    }

    /** Lets node 1, which is OFF, come back; the manager's last answer comes at the time from + delay. */
    static void comeBack(CanErrors bus, long from, long delay) {
        due("first asked at " + from, bus.manager(1, from), 0);
        due("asked too early behind " + from, bus.manager(1, from + delay - 1), 0);
        due("asked late enough behind " + from, bus.manager(1, from + delay), 1);
        due("128 rows", bus.recover(1, 128), 0);
    }
}
