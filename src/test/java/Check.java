/** What the tests share: comparing answers, and short ways to bring a node somewhere. */
final class Check {
    private static int wrong = 0;

    private Check() {
    }

    static void due(String what, long got, long want) {
        if (got != want) {
            wrong++;
            System.out.println(what + ": answered " + got + ", due is " + want);
        }
    }

    static void finish() {
        if (wrong != 0) {
            System.out.println(wrong + " answers are not as due");
            System.exit(1);
        }
    }

    static CanErrors withNodes(int count) {
        CanErrors bus = new CanErrors();
        for (int i = 1; i <= count; i++) {
            due("node() number " + i, bus.node(), i);
        }
        return bus;
    }

    static void repeat(CanErrors bus, int times, int kind, boolean sending) {
        for (int i = 0; i < times; i++) {
            bus.event(1, kind, sending);
        }
    }

    /** Brings node 1, whose counter of SENDING is 0, to OFF. */
    static void switchOff(CanErrors bus) {
        repeat(bus, 32, 1, true);
        due("switched off", bus.state(1), 2);
    }

    /** Lets node 1, which is OFF, come back; the manager's last answer comes at the time from + delay. */
    static void comeBack(CanErrors bus, long from, long delay) {
        due("first asked at " + from, bus.manager(1, from), 0);
        due("asked too early behind " + from, bus.manager(1, from + delay - 1), 0);
        due("asked late enough behind " + from, bus.manager(1, from + delay), 1);
        due("128 rows", bus.recover(1, 128), 0);
    }

    /** Brings node 1 from a counter of SENDING of 0 to count (0 .. 255), with at most 39 events. */
    static void sendingAt(CanErrors bus, int count) {
        int rest = count % 8;
        if (rest != 0) {
            bus.event(1, 1, true);
            repeat(bus, 8 - rest, 0, true);
        }
        repeat(bus, count / 8, 1, true);
        due("brought SENDING to " + count, bus.counter(1, true), count);
    }

    /** Brings node 1 from a counter of RECEIVING of 0 to count (0 .. 255), with at most 38 events. */
    static void receivingAt(CanErrors bus, int count) {
        repeat(bus, count / 8, 7, false);
        repeat(bus, count % 8, 1, false);
        due("brought RECEIVING to " + count, bus.counter(1, false), count);
    }

    /** A bus with one node, with these counters. */
    static CanErrors at(int sending, int receiving) {
        CanErrors bus = withNodes(1);
        receivingAt(bus, receiving);
        sendingAt(bus, sending);
        return bus;
    }

    /** Brings node 1, wherever it is but OFF, to OFF, with at most 17 calls: 16 more for the sender by each two. */
    static void switchOffFast(CanErrors bus) {
        switchOffBy(bus, 1);
    }

    /** Brings node 1 to OFF by kinds 7 and 8, behind a first event of this kind as the sender. */
    static void switchOffBy(CanErrors bus, int firstKind) {
        int state = bus.event(1, firstKind, true);
        for (int i = 0; i < 16 && state != 2; i++) {
            state = bus.two(1, 7, 8);
        }
        due("switched off by " + firstKind + ", 7 and 8", state, 2);
    }

    /** A bus with one node that was OFF and has come back so many times, with 21 calls for each. */
    static CanErrors backAgain(int times, long from) {
        CanErrors bus = withNodes(1);
        backAgain(bus, times, from);
        return bus;
    }

    static void backAgain(CanErrors bus, int times, long from) {
        for (int i = 0; i < times; i++) {
            switchOffFast(bus);
            comeBack(bus, from + 20L * i, 10);
        }
    }

    /** No call knows a node of this number. */
    static void noneThere(CanErrors bus, int number) {
        String of = " of " + number;
        due("event" + of, bus.event(number, 1, true), -1);
        due("counter" + of, bus.counter(number, true), -1);
        due("other counter" + of, bus.counter(number, false), -1);
        due("state" + of, bus.state(number), -1);
        due("recover" + of, bus.recover(number, 128), -1);
        due("flag" + of, bus.flag(number), -1);
        due("manager" + of, bus.manager(number, 0), -1);
        due("shot" + of, bus.shot(number, true), -1);
        due("listen" + of, bus.listen(number, true), -1);
        due("two" + of, bus.two(number, 1, 6), -1);
        due("suspended" + of, bus.suspended(number), -1);
    }
}
