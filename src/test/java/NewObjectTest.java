/** Promise 1. */
public final class NewObjectTest {
    public static void main(String[] args) {
        Due due = new Due();
        AreaOrders x = new AreaOrders();
        for (int what = 0; what <= 3; what++) {
            due.is("many " + what, x.many(what), 0);
        }
        due.is("none was read", x.whole(5), 0);
        due.is("no area", x.ofArea(0, 0), AreaOrders.UNKNOWN);
        due.is("trace", x.trace(), 0);
        due.is("fault", x.fault(), 0);
        for (int k = 0; k <= 3; k++) {
            due.is("lose " + k, x.lose(k), 0);
            due.is("put " + k, x.put(k, 0, 1), -11);
        }
        AreaOrders other = Due.mapOf("m;p11,0,0");
        due.is("objects are on their own", new AreaOrders().many(0), 0);
        due.is("the other one", other.many(0), 1);
        due.end();
    }
}
