/** Promise 7: control. */
public final class ControlTest {
    public static void main(String[] args) {
        Checks c = new Checks();
        ServiceRows2 x = new ServiceRows2();
        x.identifier(1, 2, 3, 3);
        x.identifier(2, 8, 1, 0);
        x.dynamic(3, 1, 1);
        int[] unknown = {0, 4, -1, 65536, Integer.MIN_VALUE, Integer.MAX_VALUE};
        for (int id : unknown) {
            c.due("identifier " + id, x.control(id, 2, 1), -1);
        }
        int[] kinds = {-1, 2, 3, Integer.MIN_VALUE, Integer.MAX_VALUE};
        for (int kind : kinds) {
            c.due("kind " + kind, x.control(1, kind, 1), -2);
            c.due("kind before state " + kind, x.control(3, kind, 1), -2);
        }
        c.due("put together, kind 0", x.control(3, 0, 1), -3);
        c.due("put together, kind 1", x.control(3, 1, 1), -3);
        c.due("the car asks for no SESSION and no LEVEL", x.control(1, 0, 0x12345L), 1);
        c.due("its lowest octets", x.value(1), 0x2345L);
        c.due("nothing of it", x.control(1, 0, 0), 1);
        c.due("value 0", x.value(1), 0);
        c.due("the lowest number", x.control(2, 0, Long.MIN_VALUE), 1);
        c.due("eight octets", x.value(2), Long.MIN_VALUE);
        writing(c);
        c.end();
    }

    private static void writing(Checks c) {
        ServiceRows2 x = new ServiceRows2();
        x.identifier(1, 1, 1, 0);
        x.condition(0, false);
        x.control(1, 0, 9);
        c.due("the car moves, and sets", x.value(1), 9);
        x.condition(0, true);
        c.serves("it may be written at first", x, Checks.q(46, 0, 1, 5), 110, 0, 1);
        c.due("not any more", x.control(1, 1, 0), 1);
        c.refuses("not written", x, 49, 46, 0, 1, 6);
        c.due("value as before", x.value(1), 5);
        c.due("the car itself may", x.control(1, 0, 7), 1);
        c.due("value of the car", x.value(1), 7);
        c.put(x, 17, 1);
        c.refuses("a reset does not change that", x, 49, 46, 0, 1, 6);
        long[] allowed = {1, -1, Long.MIN_VALUE, 1L << 32};
        for (long v : allowed) {
            x.control(1, 1, 0);
            c.due("written again", x.control(1, 1, v), 1);
            c.serves("it is written", x, Checks.q(46, 0, 1, 6), 110, 0, 1);
        }
        x.control(1, 1, 0);
        c.put(x, 16, 2);
        c.serves("control is not writing", x, Checks.q(47, 0, 1, 1), 111, 0, 1, 1);
        x.control(1, 0, 8);
        c.due("the OWN value is behind the CONTROL", x.value(1), 0);
        c.put(x, 47, 0, 1, 0);
        c.due("and comes back", x.value(1), 8);
    }
}
