/** The examples of README.md, call by call. */
public final class ReadmeTest {
    public static void main(String[] args) {
        CanErrors bus = new CanErrors();
        int node = bus.node();
        Check.due("node()", node, 1);
        firstExample(bus, node);
        comingBack(bus, node);
        Check.finish();
    }

    private static void firstExample(CanErrors bus, int node) {
        Check.due("a wrong bit", bus.event(node, 1, true), 0);
        Check.due("counter behind it", bus.counter(node, true), 8);
        Check.due("flag behind it", bus.flag(node), 6);
        Check.due("suspended behind it", bus.suspended(node), 3);
        Check.due("two", bus.two(node, 8, 6), 0);
        Check.due("counter behind two", bus.counter(node, true), 16);
        Check.due("flag behind two", bus.flag(node), 15);
        Check.due("a good frame", bus.event(node, 0, true), 0);
        Check.due("counter behind a good frame", bus.counter(node, true), 15);
    }

    private static void comingBack(CanErrors bus, int node) {
        for (int i = 0; i < 31; i++) {
            bus.event(node, 1, true);
        }
        Check.due("state", bus.state(node), 2);
        Check.due("rows before it is let", bus.recover(node, 128), -3);
        Check.due("first asking", bus.manager(node, 1000), 0);
        Check.due("9 later", bus.manager(node, 1009), 0);
        Check.due("10 later", bus.manager(node, 1010), 1);
        Check.due("127 rows", bus.recover(node, 127), 2);
        Check.due("128 rows", bus.recover(node, 1), 0);
    }
}
