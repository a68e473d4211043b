/** Promise 3: dynamic. */
public final class DynamicTest {
    public static void main(String[] args) {
        Checks c = new Checks();
        parts(c);
        refusals(c);
        room(c);
        numbersOfItsOwn(c);
        followsItsParts(c);
        c.end();
    }

    private static ServiceRows2 withThree() {
        ServiceRows2 x = new ServiceRows2();
        x.identifier(1, 8, 1, 0);
        x.identifier(2, 3, 1, 0);
        x.identifier(3, 1, 1, 0);
        x.control(1, 0, 0x0102030405060708L);
        x.control(2, 0, 0xA1A2A3L);
        x.control(3, 0, 0xF0L);
        return x;
    }

    private static void parts(Checks c) {
        ServiceRows2 x = withThree();
        c.due("made", x.dynamic(9, 2, 2), 2);
        c.due("its first octets", x.value(9), 0xA1A2L);
        c.due("behind those", x.dynamic(9, 3, 1), 3);
        c.due("the octets of two", x.value(9), 0xA1A2F0L);
        c.due("one twice", x.dynamic(9, 2, 3), 6);
        c.due("the octets of three parts", x.value(9), 0xA1A2F0A1A2A3L);
        c.due("up to eight", x.dynamic(9, 1, 2), 8);
        c.due("eight octets with a sign", x.value(9), 0xA1A2F0A1A2A30102L);
        c.serves("read", x, Checks.q(34, 0, 9), 98, 0, 9, 0xA1, 0xA2, 0xF0, 0xA1, 0xA2, 0xA3, 1, 2);
        c.due("a whole one at once", x.dynamic(10, 1, 8), 8);
        c.due("the same value", x.value(10), 0x0102030405060708L);
        c.due("they count", x.identifier(11, 1, 1, 0), 6);
    }

    private static void refusals(Checks c) {
        ServiceRows2 x = withThree();
        int[] unknown = {7, -1, 65536, Integer.MIN_VALUE, Integer.MAX_VALUE};
        for (int from : unknown) {
            c.due("no identifier " + from, x.dynamic(-1, from, 0), -1);
        }
        c.due("not itself before it is made", x.dynamic(9, 9, 1), -1);
        int[] outside = {-1, 65536, Integer.MIN_VALUE, Integer.MAX_VALUE};
        for (int id : outside) {
            c.due("no number " + id, x.dynamic(id, 2, 1), -2);
        }
        int[] counts = {0, -1, 4, Integer.MIN_VALUE, Integer.MAX_VALUE};
        for (int n : counts) {
            c.due("octets " + n, x.dynamic(9, 2, n), -2);
        }
        c.due("range before state", x.dynamic(1, 2, 4), -2);
        c.due("id is an ordinary one's", x.dynamic(1, 2, 1), -3);
        c.due("id is its own", x.dynamic(2, 2, 1), -3);
        c.due("nothing was made", x.value(9), 0);
        c.due("made", x.dynamic(9, 2, 3), 3);
        c.due("from is put together", x.dynamic(10, 9, 1), -3);
        c.due("from is put together, and itself", x.dynamic(9, 9, 1), -3);
        c.due("its length is a range", x.dynamic(10, 9, 4), -2);
        c.due("edges of the numbers", x.dynamic(0, 1, 8), 8);
        c.due("edges of the numbers", x.dynamic(65535, 1, 1), 1);
    }

    private static void room(Checks c) {
        ServiceRows2 x = withThree();
        x.dynamic(9, 1, 7);
        c.due("more than eight", x.dynamic(9, 2, 2), -4);
        c.due("as before", x.value(9), 0x01020304050607L);
        c.due("just eight", x.dynamic(9, 2, 1), 8);
        c.due("nine", x.dynamic(9, 3, 1), -4);
        c.due("state before room", x.dynamic(9, 9, 1), -3);
        x.dynamic(10, 3, 1);
        for (int i = 5; i < 40; i++) {
            c.due("identifier", x.identifier(100 + i, 1, 1, 0), i + 1);
        }
        c.due("there are 40", x.dynamic(11, 3, 1), -4);
        c.due("none was made", x.value(11), 0);
        c.due("an old one goes on with 40", x.dynamic(10, 2, 1), 2);
        c.due("its octets", x.value(10), 0xF0A1L);
    }

    private static void numbersOfItsOwn(Checks c) {
        ServiceRows2 x = new ServiceRows2();
        x.identifier(1, 2, 3, 3);
        x.control(1, 0, 0x0506);
        x.dynamic(9, 1, 2);
        c.serves("SESSION 1, LEVEL 0, whatever its parts have", x, Checks.q(34, 0, 9), 98, 0, 9, 5, 6);
        c.refuses("the part itself is not here", x, 49, 34, 0, 1);
        c.refuses("it is not written", x, 49, 46, 0, 9, 1, 1);
        c.put(x, 16, 2);
        c.refuses("it has no control", x, 49, 47, 0, 9, 1);
        c.due("the car does not set it", x.control(9, 0, 1), -3);
    }

    private static void followsItsParts(Checks c) {
        ServiceRows2 x = withThree();
        x.dynamic(9, 2, 2);
        x.control(2, 0, 0x112233L);
        c.due("the own value", x.value(9), 0x1122L);
        c.put(x, 16, 2);
        c.put(x, 47, 0, 2, 3, 7, 8, 9);
        c.due("the control", x.value(9), 0x0708L);
        c.put(x, 17, 1);
        c.due("after a reset", x.value(9), 0);
    }
}
