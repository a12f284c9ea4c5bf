/** Promise 1: a new object has no nodes. */
public final class NewObjectTest {
    public static void main(String[] args) {
        CanErrors bus = new CanErrors();
        Check.noneThere(bus, 1);
        Check.due("first node", bus.node(), 1);
        Check.noneThere(new CanErrors(), 1);
        Check.finish();
    }
}
