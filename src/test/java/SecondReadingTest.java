import java.util.Random;

/** Random runs of fixed seeds: the class answers every call as the second reading of the document does. */
public final class SecondReadingTest {
    private static final int RUNS = 1500;
    private static final int CALLS = 512;
    private static final int[] ROWS = {1, 27, 100, 127, 128, 129, 128, 0, -1, Integer.MAX_VALUE, Integer.MIN_VALUE};
    private static final int[] STRANGE = {0, -1, 101, Integer.MIN_VALUE, Integer.MAX_VALUE};
    private static final int[] ERRORS = {1, 2, 3, 4, 5, 9, 10};
    private static final int[] LATER = {0, 1, 9, 10, 11, 89, 90, 99, 100};

    private static int timesOff = 0;
    private static int timesBack = 0;
    private static int longWaits = 0;

    private final Random random;
    private final String run;
    private final CanErrors bus = new CanErrors();
    private final SecondReading reading = new SecondReading();
    private int nodes = 0;
    private int calls = 0;
    private long time = 0;
    private int offsInRun = 0;
    private int smoothCalls = 0;
    private boolean waits = false;

    private SecondReadingTest(int seed) {
        random = new Random(seed);
        run = "seed " + seed;
    }

    public static void main(String[] args) {
        for (int seed = 0; seed < RUNS; seed++) {
            new SecondReadingTest(seed).mixed();
            new SecondReadingTest(seed).stormy();
        }
        hundredNodes();
        Check.due("the runs met OFF", timesOff > RUNS ? 1 : 0, 1);
        Check.due("the runs met coming back", timesBack > RUNS ? 1 : 0, 1);
        Check.due("the runs met long waits", longWaits > RUNS ? 1 : 0, 1);
        Check.finish();
    }

    private static void hundredNodes() {
        CanErrors bus = new CanErrors();
        SecondReading reading = new SecondReading();
        for (int i = 1; i <= 103; i++) {
            Check.due("node() number " + i, bus.node(), reading.node());
        }
    }

    private void mixed() {
        int most = 1 + random.nextInt(3);
        while (calls < CALLS) {
            if (nodes < most && random.nextInt(4) == 0) {
                addNode();
            } else {
                mixedCall(number());
            }
        }
    }

    private void mixedCall(int number) {
        int choice = random.nextInt(20);
        if (reading.state(number) == 2 && choice < 15) {
            helpBack(number);
        } else if (choice < 9) {
            event(number, kind(), random.nextInt(3) != 0);
        } else if (choice < 14) {
            two(number, kind(), kind());
        } else {
            ask(number);
        }
    }

    /** One node is OFF again and again, with about 100 good frames between: mixed calls hardly come so far. */
    private void stormy() {
        addNode();
        int smoothBehind = 4 + random.nextInt(4);
        while (calls < CALLS) {
            if (offsInRun == smoothBehind && reading.state(1) != 2) {
                smoothCalls = 95 + random.nextInt(12);
                offsInRun = 0;
            }
            stormyCall();
        }
    }

    private void stormyCall() {
        int choice = random.nextInt(100);
        if (reading.state(1) == 2) {
            helpBack(1);
        } else if (smoothCalls > 0) {
            smoothCalls--;
            event(1, choice == 0 ? pick(ERRORS) : choice == 1 ? 6 : 0, choice < 50);
        } else if (choice < 8) {
            ask(1);
        } else if (choice < 40) {
            event(1, 7 + choice % 2, true);
        } else {
            two(1, 7, choice < 90 ? 8 : 1);
        }
    }

    private int number() {
        return random.nextInt(40) == 0 ? pick(STRANGE) : 1 + random.nextInt(Math.max(1, nodes));
    }

    private int kind() {
        int choice = random.nextInt(60);
        if (choice == 0) {
            return random.nextBoolean() ? 11 : pick(STRANGE);
        }
        if (choice < 8) {
            return 0;
        }
        return choice < 30 ? pick(ERRORS) : 6 + random.nextInt(3);
    }

    private void addNode() {
        nodes++;
        same("node()", bus.node(), reading.node());
    }

    private void event(int number, int kind, boolean sending) {
        int answer = bus.event(number, kind, sending);
        countOff(answer);
        same("event(" + number + ", " + kind + ", " + sending + ")", answer, reading.event(number, kind, sending));
    }

    private void two(int number, int a, int b) {
        int answer = bus.two(number, a, b);
        countOff(answer);
        same("two(" + number + ", " + a + ", " + b + ")", answer, reading.two(number, a, b));
    }

    private void countOff(int answer) {
        if (answer == 2) {
            timesOff++;
            offsInRun++;
            waits = false;
        }
    }

    private void helpBack(int number) {
        if (random.nextInt(3) != 0) {
            manager(number);
            return;
        }
        int rows = pick(ROWS);
        int answer = bus.recover(number, rows);
        timesBack += answer == 0 ? 1 : 0;
        same("recover(" + number + ", " + rows + ")", answer, reading.recover(number, rows));
    }

    private void manager(int number) {
        int later = pick(LATER);
        long t = random.nextInt(8) == 0 ? time - 1 - random.nextInt(30) : time + later;
        int answer = bus.manager(number, t);
        longWaits += waits && nodes == 1 && t >= time + 10 && answer == 0 ? 1 : 0;
        waits = answer == 0;
        time = number >= 1 && number <= nodes ? Math.max(time, t) : time;
        same("manager(" + number + ", " + t + ")", answer, reading.manager(number, t));
    }

    private void ask(int number) {
        boolean yes = random.nextInt(3) == 0;
        switch (random.nextInt(8)) {
            case 0:
                same("SENDING of " + number, bus.counter(number, true), reading.counter(number, true));
                break;
            case 1:
                same("RECEIVING of " + number, bus.counter(number, false), reading.counter(number, false));
                break;
            case 2:
                same("state(" + number + ")", bus.state(number), reading.state(number));
                break;
            case 3:
                same("flag(" + number + ")", bus.flag(number), reading.flag(number));
                break;
            case 4:
                same("suspended(" + number + ")", bus.suspended(number), reading.suspended(number));
                break;
            case 5:
                same("shot(" + number + ", " + yes + ")", bus.shot(number, yes), reading.shot(number, yes));
                break;
            case 6:
                same("listen(" + number + ", " + yes + ")", bus.listen(number, yes), reading.listen(number, yes));
                break;
            default:
                manager(number);
                break;
        }
    }

    private void same(String call, int got, int want) {
        calls++;
        Check.due(run + ", call " + calls + ", " + call, got, want);
    }

    private int pick(int[] from) {
        return from[random.nextInt(from.length)];
    }
}
