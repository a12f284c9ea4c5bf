/** Promise 1: a new object has no nodes. */
public final class NewObjectTest {
    public static void main(String[] args) {
        CanErrors bus = new CanErrors();
        int[] numbers = {1, 0, -1, 2, 100, 101, Integer.MAX_VALUE, Integer.MIN_VALUE};
        for (int number : numbers) {
            Check.due("event of " + number, bus.event(number, 0, false), -1);
            Check.due("counter of " + number, bus.counter(number, true), -1);
            Check.due("state of " + number, bus.state(number), -1);
            Check.due("recover of " + number, bus.recover(number, 1), -1);
            Check.due("flag of " + number, bus.flag(number), -1);
            Check.due("manager of " + number, bus.manager(number, 0), -1);
            Check.due("shot of " + number, bus.shot(number, true), -1);
            Check.due("listen of " + number, bus.listen(number, true), -1);
            Check.due("two of " + number, bus.two(number, 1, 6), -1);
            Check.due("suspended of " + number, bus.suspended(number), -1);
        }
        Check.due("first node", bus.node(), 1);
        Check.due("another object has none of it", new CanErrors().state(1), -1);
        Check.finish();
    }
}
