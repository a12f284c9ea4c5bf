import java.util.Random;

/**
 * For any calls: none throws, answers stay in their ranges, and a refusal changes nothing:
 * a second object that is spared the refused calls answers all others alike.
 */
public final class RefusalTest {
    private static final int CALLS = 508;
    private static final int[] NUMBERS = {1, 1, 1, 1, 1, 2, 2, 3, 0, 4, -1, Integer.MIN_VALUE, Integer.MAX_VALUE};
    private static final int[] KINDS = {0, 1, 2, 3, 4, 5, 6, 7, 7, 8, 8, 9, 10, 11, -1, Integer.MAX_VALUE};
    private static final int[] ROWS = {1, 5, 127, 128, 0, -1, Integer.MAX_VALUE, Integer.MIN_VALUE};
    private static final String[] NAMES = {
        "event", "event", "event", "two", "two", "counter", "state", "recover", "flag", "manager", "shot",
        "listen", "suspended"};

    public static void main(String[] args) {
        for (int seed = 0; seed < 2000; seed++) {
            oneRun(new Random(seed), "seed " + seed);
        }
        Check.finish();
    }

    private static void oneRun(Random random, String run) {
        CanErrors full = Check.withNodes(3);
        CanErrors spared = Check.withNodes(3);
        long time = 0;
        for (int i = 0; i < CALLS; i++) {
            time += random.nextInt(9);
            String name = NAMES[random.nextInt(NAMES.length)];
            int number = pick(random, NUMBERS);
            int a = name.equals("recover") ? pick(random, ROWS) : pick(random, KINDS);
            int b = pick(random, KINDS);
            boolean yes = random.nextInt(5) > (name.equals("listen") ? 3 : 1);
            long t = random.nextInt(4) == 0 ? time - random.nextInt(20) : time;
            String what = run + ", call " + i + ", " + name;
            int answer = call(full, name, number, a, b, yes, t);
            inRange(what, name, answer);
            if (answer >= 0) {
                Check.due(what, call(spared, name, number, a, b, yes, t), answer);
            }
        }
    }

    private static int call(CanErrors bus, String name, int number, int a, int b, boolean yes, long t) {
        switch (name) {
            case "event": return bus.event(number, a, yes);
            case "counter": return bus.counter(number, yes);
            case "state": return bus.state(number);
            case "recover": return bus.recover(number, a);
            case "flag": return bus.flag(number);
            case "manager": return bus.manager(number, t);
            case "shot": return bus.shot(number, yes);
            case "listen": return bus.listen(number, yes);
            case "two": return bus.two(number, a, b);
            default: return bus.suspended(number);
        }
    }

    private static void inRange(String what, String name, int answer) {
        int most;
        switch (name) {
            case "counter": most = 256; break;
            case "manager": case "listen": most = 1; break;
            case "suspended": most = 11; break;
            case "flag": case "shot": most = 10000; break;
            default: most = 2; break;
        }
        Check.due(what + " in range", answer >= -3 && answer <= most ? 1 : 0, 1);
    }

    private static int pick(Random random, int[] from) {
        return from[random.nextInt(from.length)];
    }
}
