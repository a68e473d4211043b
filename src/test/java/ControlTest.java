/** Promise 7: control. */
public final class ControlTest {
    public static void main(String[] args) {
        Checks c = new Checks();
        ownValue(c);
        mayBeWritten(c);
        thereIsNone(c);
        noSuchKind(c);
        putTogether(c);
        firstThatFits(c);
        c.end();
    }

    private static void ownValue(Checks c) {
        c.sentence("kind 0: an identifier's OWN value becomes v");
        ServiceRows2 x = new ServiceRows2();
        x.identifier(1, 2, 3, 3);
        x.identifier(2, 8, 1, 0);
        x.condition(0, false);
        c.due("without SESSION, LEVEL and standing", x.control(1, 0, 0x12345L), 1);
        c.due("its lowest octets", x.value(1), 0x2345L);
        c.due("0", x.control(1, 0, 0), 1);
        c.due("0", x.value(1), 0);
        c.due("the lowest number", x.control(2, 0, Long.MIN_VALUE), 1);
        c.due("the lowest number", x.value(2), Long.MIN_VALUE);
        c.due("the highest number", x.control(2, 0, Long.MAX_VALUE), 1);
        c.due("the highest number", x.value(2), Long.MAX_VALUE);
        c.put(x, 16, 2);
        c.put(x, 47, 0, 2, 1);
        c.due("behind a CONTROL", x.control(2, 0, 8), 1);
        c.due("the CONTROL shows", x.value(2), 0);
        c.put(x, 47, 0, 2, 0);
        c.due("then it shows", x.value(2), 8);
    }

    private static void mayBeWritten(Checks c) {
        c.sentence("1: it may be written (v is not 0, as at first), or not: 1.");
        ServiceRows2 x = new ServiceRows2();
        x.identifier(1, 1, 1, 0);
        c.serves("at first", x, Checks.q(46, 0, 1, 5), 110, 0, 1);
        c.due("v = 0", x.control(1, 1, 0), 1);
        c.refuses("not any more", x, 49, 46, 0, 1, 6);
        c.due("as before", x.value(1), 5);
        c.due("the car itself may", x.control(1, 0, 7), 1);
        c.due("the car's value", x.value(1), 7);
        c.put(x, 17, 1);
        c.refuses("a reset does not change that", x, 49, 46, 0, 1, 6);
        long[] some = {1, -1, 2, Long.MIN_VALUE, Long.MAX_VALUE, 1L << 32};
        for (long v : some) {
            x.control(1, 1, 0);
            c.due("v = " + v, x.control(1, 1, v), 1);
            c.serves("v = " + v, x, Checks.q(46, 0, 1, 6), 110, 0, 1);
        }
        c.due("the value is no v", x.value(1), 6);
        x.control(1, 1, 0);
        c.serves("it is still read", x, Checks.q(34, 0, 1), 98, 0, 1, 6);
        c.put(x, 16, 2);
        c.serves("and controlled", x, Checks.q(47, 0, 1, 1), 111, 0, 1, 1);
    }

    private static void thereIsNone(Checks c) {
        c.sentence("-1 there is none");
        ServiceRows2 x = new ServiceRows2();
        x.identifier(1, 1, 1, 0);
        x.routine(4, 1);
        int[] unknown = {0, 2, 4, -1, 65536, 65537, Integer.MIN_VALUE, Integer.MAX_VALUE};
        for (int id : unknown) {
            c.due("identifier " + id, x.control(id, 0, 1), -1);
            c.due("identifier " + id, x.control(id, 1, 0), -1);
        }
        c.due("none was made", x.identifier(4, 1, 1, 0), 2);
    }

    private static void noSuchKind(Checks c) {
        c.sentence("-2 no such kind");
        ServiceRows2 x = new ServiceRows2();
        x.identifier(1, 1, 1, 0);
        x.control(1, 0, 3);
        int[] kinds = {-1, 2, 3, Integer.MIN_VALUE, Integer.MAX_VALUE};
        for (int kind : kinds) {
            c.due("kind " + kind, x.control(1, kind, 0), -2);
        }
        c.due("as before", x.value(1), 3);
        c.serves("it may still be written", x, Checks.q(46, 0, 1, 5), 110, 0, 1);
    }

    private static void putTogether(Checks c) {
        c.sentence("-3 it is PUT TOGETHER");
        ServiceRows2 x = new ServiceRows2();
        x.identifier(1, 1, 1, 0);
        x.control(1, 0, 4);
        x.dynamic(3, 1, 1);
        c.due("kind 0", x.control(3, 0, 9), -3);
        c.due("kind 1", x.control(3, 1, 0), -3);
        c.due("as before", x.value(3), 4);
        c.due("its part is as before", x.value(1), 4);
    }

    private static void firstThatFits(Checks c) {
        c.sentence("answer, the first that fits: -1 an unknown number, -2 outside a range, -3 not in this state, -4 no room");
        ServiceRows2 x = new ServiceRows2();
        x.identifier(1, 1, 1, 0);
        x.dynamic(3, 1, 1);
        c.due("-1 before -2", x.control(9, 2, 1), -1);
        c.due("-2 before -3", x.control(3, 2, 1), -2);
        c.due("-2 before -3", x.control(3, -1, 1), -2);
    }
}
