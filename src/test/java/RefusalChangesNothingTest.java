import java.util.ArrayList;
import java.util.List;

/**
 * "REFUSALS change nothing": in each state every refusal is tried on one of two objects that were
 * made alike, and probes, which also bring to light what no call tells at once, must find them alike.
 */
public final class RefusalChangesNothingTest {
    private interface Call {
        int on(CanErrors bus);
    }

    private interface Probe {
        void look(CanErrors bus, long time, List<Integer> answers);
    }

    private record Refusal(String name, int answer, Call call) {
    }

    /** A way to a state; its last time is what the manager was asked at last, for any node. */
    private record State(String name, int nodes, long lastTime, Call way) {
        CanErrors make() {
            CanErrors bus = Check.withNodes(nodes);
            way.on(bus);
            return bus;
        }
    }

    private static final Probe[] PROBES = {
        RefusalChangesNothingTest::lookAtPart, RefusalChangesNothingTest::lookAtRow,
        RefusalChangesNothingTest::lookAtTimes, RefusalChangesNothingTest::lookAtRoom};

    public static void main(String[] args) {
        for (State state : notOffStates()) {
            tryAll(state, always(state));
            tryAll(state, whenNotOff());
        }
        for (State state : listeningStates()) {
            tryAll(state, always(state));
            tryAll(state, whenNotOff());
            tryAll(state, whenListening());
        }
        for (State state : notLetStates()) {
            tryAll(state, always(state));
            tryAll(state, whenOff());
            tryAll(state, whenNotLet());
        }
        for (State state : letStates()) {
            tryAll(state, always(state));
            tryAll(state, whenOff());
        }
        State full = new State("100 nodes", 100, 0, bus -> someErrors(bus));
        tryAll(full, always(full));
        tryAll(full, List.of(new Refusal("node", -4, bus -> bus.node())));
        Check.finish();
    }

    private static List<State> notOffStates() {
        return List.of(
            new State("new", 1, 0, bus -> 0),
            new State("some errors", 1, 0, bus -> someErrors(bus)),
            new State("a receiver, single", 1, 0, bus -> someErrors(bus) + bus.shot(1, true) + bus.event(1, 3, false)),
            new State("at 127", 1, 0, bus -> counts(bus, 127, 127)),
            new State("at 128", 1, 0, bus -> counts(bus, 128, 128)),
            new State("at 255", 1, 0, bus -> counts(bus, 255, 255)),
            new State("asked for", 2, 50, bus -> bus.manager(2, 50)),
            new State("at the last time", 1, Long.MAX_VALUE - 300, bus -> bus.manager(1, Long.MAX_VALUE - 300)),
            new State("98 good frames", 1, 90, bus -> goodFrames(bus, 98)),
            new State("99 good frames", 1, 90, bus -> goodFrames(bus, 99)),
            new State("100 good frames", 1, 90, bus -> goodFrames(bus, 100)));
    }

    private static List<State> listeningStates() {
        return List.of(
            new State("listens, new", 1, 0, bus -> bus.listen(1, true)),
            new State("listens, some errors", 1, 0, bus -> someErrors(bus) + bus.listen(1, true)),
            new State("listens, single", 1, 0, bus -> someErrors(bus) + bus.shot(1, true) + bus.listen(1, true)),
            new State("listens, at 255", 1, 0, bus -> counts(bus, 255, 255) + bus.listen(1, true)),
            new State("listens, 98 good frames", 1, 90, bus -> goodFrames(bus, 98) + bus.listen(1, true)),
            new State("listens, 99 good frames", 1, 90, bus -> goodFrames(bus, 99) + bus.listen(1, true)));
    }

    private static List<State> notLetStates() {
        return List.of(
            new State("OFF", 1, 0, bus -> off(bus)),
            new State("OFF, asked for at 7", 1, 7, bus -> off(bus) + bus.manager(1, 7)),
            new State("OFF, asked for at 7 and 16", 1, 16, bus -> off(bus) + bus.manager(1, 7) + bus.manager(1, 16)),
            new State("OFF, single", 1, 0, bus -> bus.shot(1, true) + off(bus)),
            new State("OFF, receiving at 255", 1, 0, bus -> counts(bus, 0, 255) + off(bus)),
            new State("OFF for the 5th time", 1, 70, bus -> offAgain(bus, 4)),
            new State("OFF for the 6th time", 1, 90, bus -> offAgain(bus, 5)));
    }

    private static List<State> letStates() {
        return List.of(
            new State("let", 1, 10, bus -> let(bus)),
            new State("let, 1 row", 1, 10, bus -> let(bus) + bus.recover(1, 1)),
            new State("let, 127 rows", 1, 10, bus -> let(bus) + bus.recover(1, 127)));
    }

    private static List<Refusal> always(State state) {
        List<Refusal> all = new ArrayList<>();
        int[] unknown = {0, -1, state.nodes() + 1, 101, Integer.MAX_VALUE, Integer.MIN_VALUE};
        for (int number : unknown) {
            addUnknown(all, number);
        }
        int[] noKind = {-1, 11, Integer.MAX_VALUE, Integer.MIN_VALUE};
        for (int kind : noKind) {
            all.add(new Refusal("event as sender, kind " + kind, -2, bus -> bus.event(1, kind, true)));
            all.add(new Refusal("event as receiver, kind " + kind, -2, bus -> bus.event(1, kind, false)));
            all.add(new Refusal("two with first " + kind, -2, bus -> bus.two(1, kind, 7)));
            all.add(new Refusal("two with second " + kind, -2, bus -> bus.two(1, 1, kind)));
        }
        all.add(new Refusal("two with first 0", -2, bus -> bus.two(1, 0, 1)));
        all.add(new Refusal("two with second 0", -2, bus -> bus.two(1, 7, 0)));
        int[] noRows = {0, -1, -128, Integer.MIN_VALUE};
        for (int rows : noRows) {
            all.add(new Refusal("recover " + rows, -2, bus -> bus.recover(1, rows)));
        }
        long[] noTime = {-1, state.lastTime() - 1, Long.MIN_VALUE};
        for (long time : noTime) {
            all.add(new Refusal("manager at " + time, -2, bus -> bus.manager(1, time)));
        }
        return all;
    }

    private static void addUnknown(List<Refusal> all, int number) {
        String of = " of " + number;
        all.add(new Refusal("event as sender" + of, -1, bus -> bus.event(number, 1, true)));
        all.add(new Refusal("good frame" + of, -1, bus -> bus.event(number, 0, false)));
        all.add(new Refusal("counter" + of, -1, bus -> bus.counter(number, true)));
        all.add(new Refusal("state" + of, -1, bus -> bus.state(number)));
        all.add(new Refusal("recover" + of, -1, bus -> bus.recover(number, 128)));
        all.add(new Refusal("flag" + of, -1, bus -> bus.flag(number)));
        all.add(new Refusal("manager" + of, -1, bus -> bus.manager(number, Long.MAX_VALUE)));
        all.add(new Refusal("single" + of, -1, bus -> bus.shot(number, true)));
        all.add(new Refusal("not single" + of, -1, bus -> bus.shot(number, false)));
        all.add(new Refusal("listen" + of, -1, bus -> bus.listen(number, true)));
        all.add(new Refusal("listen no more" + of, -1, bus -> bus.listen(number, false)));
        all.add(new Refusal("two" + of, -1, bus -> bus.two(number, 1, 7)));
        all.add(new Refusal("suspended" + of, -1, bus -> bus.suspended(number)));
    }

    private static List<Refusal> whenNotOff() {
        return List.of(
            new Refusal("recover 1", -3, bus -> bus.recover(1, 1)),
            new Refusal("recover 128", -3, bus -> bus.recover(1, 128)),
            new Refusal("recover most", -3, bus -> bus.recover(1, Integer.MAX_VALUE)));
    }

    private static List<Refusal> whenListening() {
        List<Refusal> all = new ArrayList<>();
        for (int k = 0; k <= 10; k++) {
            int kind = k;
            all.add(new Refusal("event as sender, kind " + kind, -3, bus -> bus.event(1, kind, true)));
        }
        return all;
    }

    private static List<Refusal> whenOff() {
        List<Refusal> all = new ArrayList<>();
        for (int k = 0; k <= 10; k++) {
            int kind = k;
            all.add(new Refusal("event as sender, kind " + kind, -3, bus -> bus.event(1, kind, true)));
            all.add(new Refusal("event as receiver, kind " + kind, -3, bus -> bus.event(1, kind, false)));
        }
        for (int k = 1; k <= 10; k++) {
            int kind = k;
            all.add(new Refusal("two " + kind + " 7", -3, bus -> bus.two(1, kind, 7)));
        }
        all.add(new Refusal("listen", -3, bus -> bus.listen(1, true)));
        all.add(new Refusal("listen no more", -3, bus -> bus.listen(1, false)));
        all.add(new Refusal("suspended", -3, bus -> bus.suspended(1)));
        return all;
    }

    private static List<Refusal> whenNotLet() {
        return List.of(
            new Refusal("recover 1", -3, bus -> bus.recover(1, 1)),
            new Refusal("recover 127", -3, bus -> bus.recover(1, 127)),
            new Refusal("recover 128", -3, bus -> bus.recover(1, 128)));
    }

    private static void tryAll(State state, List<Refusal> refusals) {
        for (int i = 0; i < PROBES.length; i++) {
            List<Integer> due = new ArrayList<>();
            PROBES[i].look(state.make(), state.lastTime(), due);
            for (Refusal refusal : refusals) {
                CanErrors bus = state.make();
                String what = state.name() + ", " + refusal.name();
                Check.due(what, refusal.call().on(bus), refusal.answer());
                List<Integer> got = new ArrayList<>();
                PROBES[i].look(bus, state.lastTime(), got);
                Check.due(what + ", then probe " + i + " " + got + " is as due " + due, got.equals(due) ? 1 : 0, 1);
            }
        }
    }

    /** The part that `two` has, whether the node is SINGLE, and whether it listens alone. */
    private static void lookAtPart(CanErrors bus, long time, List<Integer> answers) {
        lookAtNode(bus, answers);
        answers.add(bus.two(1, 7, 9));
        lookAtNode(bus, answers);
        answers.add(bus.shot(1, false));
        answers.add(bus.event(1, 1, true));
        answers.add(bus.event(1, 1, false));
        answers.add(bus.listen(1, false));
        lookAtNode(bus, answers);
    }

    /** How many good frames came in a row, how often it was OFF, and how many rows were counted. */
    private static void lookAtRow(CanErrors bus, long time, List<Integer> answers) {
        answers.add(bus.event(1, 0, false));
        answers.add(bus.listen(1, false));
        answers.add(bus.event(1, 1, true));
        for (int i = 0; i < 16; i++) {
            answers.add(bus.two(1, 7, 8));
        }
        int[] laters = {0, 9, 10, 99, 100};
        for (int later : laters) {
            answers.add(bus.manager(1, time + later));
        }
        answers.add(bus.recover(1, 1));
        answers.add(bus.recover(1, 126));
        answers.add(bus.recover(1, 1));
        lookAtNode(bus, answers);
    }

    /** Which times are taken, and when the first asking was. */
    private static void lookAtTimes(CanErrors bus, long time, List<Integer> answers) {
        answers.add(bus.recover(1, 1));
        for (int later = 0; later <= 11; later++) {
            answers.add(bus.manager(1, time + later));
            lookAtNode(bus, answers);
        }
        answers.add(bus.recover(1, 126));
        answers.add(bus.recover(1, 1));
        lookAtNode(bus, answers);
    }

    private static void lookAtRoom(CanErrors bus, long time, List<Integer> answers) {
        int number = bus.node();
        answers.add(number);
        answers.add(bus.node());
        answers.add(bus.state(number));
        answers.add(bus.counter(number, true));
        answers.add(bus.listen(number, false));
        lookAtNode(bus, answers);
    }

    private static void lookAtNode(CanErrors bus, List<Integer> answers) {
        answers.add(bus.counter(1, true));
        answers.add(bus.counter(1, false));
        answers.add(bus.state(1));
        answers.add(bus.flag(1));
        answers.add(bus.suspended(1));
    }

    private static int someErrors(CanErrors bus) {
        bus.shot(1, true);
        bus.event(1, 2, true);
        bus.shot(1, false);
        bus.event(1, 7, false);
        bus.event(1, 3, true);
        return bus.event(1, 8, true);
    }

    private static int counts(CanErrors bus, int sending, int receiving) {
        Check.receivingAt(bus, receiving);
        Check.sendingAt(bus, sending);
        return bus.event(1, 6, true);
    }

    /** Good frames of a node that was OFF five times, so that the 100th is seen by how long it waits. */
    private static int goodFrames(CanErrors bus, int count) {
        Check.backAgain(bus, 5, 0);
        Check.repeat(bus, count, 0, false);
        return 0;
    }

    private static int off(CanErrors bus) {
        Check.switchOffFast(bus);
        return 0;
    }

    private static int offAgain(CanErrors bus, int times) {
        Check.backAgain(bus, times, 0);
        return off(bus);
    }

    private static int let(CanErrors bus) {
        off(bus);
        bus.manager(1, 0);
        return bus.manager(1, 10);
    }
}
