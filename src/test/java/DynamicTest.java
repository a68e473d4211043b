/** Promise 3: dynamic. */
public final class DynamicTest {
    public static void main(String[] args) {
        Checks c = new Checks();
        behindThose(c);
        madeByThis(c);
        lengthThen(c);
        partsOfOthers(c);
        noFrom(c);
        idIsNone(c);
        octetsOutside(c);
        idOfAnother(c);
        fromPutTogether(c);
        moreThanEight(c);
        thereAre40(c);
        firstThatFits(c);
        c.end();
    }

    private static ServiceRows2 withThree() {
        ServiceRows2 x = new ServiceRows2();
        x.identifier(1, 8, 1, 0);
        x.identifier(2, 3, 1, 0);
        x.identifier(3, 1, 1, 0);
        x.control(1, 0, 0x0102030405060708L);
        x.control(2, 0, 0xA1A2A3L);
        x.control(3, 0, 0xF0L);
        return x;
    }

    private static ServiceRows2 with40() {
        ServiceRows2 x = withThree();
        x.dynamic(9, 3, 1);
        for (int i = 4; i < 40; i++) {
            x.identifier(100 + i, 1, 1, 0);
        }
        return x;
    }

    private static void behindThose(Checks c) {
        c.sentence("The first n octets of an identifier come behind those of a PUT TOGETHER one");
        ServiceRows2 x = withThree();
        x.dynamic(9, 2, 2);
        c.due("the first two of three", x.value(9), 0xA1A2L);
        x.dynamic(9, 3, 1);
        c.due("one behind them", x.value(9), 0xA1A2F0L);
        x.dynamic(9, 2, 3);
        c.due("the same identifier again", x.value(9), 0xA1A2F0A1A2A3L);
        x.dynamic(9, 1, 2);
        c.due("eight octets, with a sign", x.value(9), 0xA1A2F0A1A2A30102L);
        c.serves("read", x, Checks.q(34, 0, 9), 98, 0, 9, 0xA1, 0xA2, 0xF0, 0xA1, 0xA2, 0xA3, 1, 2);
    }

    private static void madeByThis(Checks c) {
        c.sentence("which is made by this, if there is none (SESSION 1, LEVEL 0)");
        ServiceRows2 x = new ServiceRows2();
        x.identifier(1, 2, 3, 3);
        x.control(1, 0, 0x0506);
        x.dynamic(9, 1, 2);
        c.serves("here, whatever its parts have", x, Checks.q(34, 0, 9), 98, 0, 9, 5, 6);
        c.refuses("the part itself is not", x, 49, 34, 0, 1);
        c.due("it counts", x.identifier(2, 1, 1, 0), 3);
        x.dynamic(9, 1, 1);
        c.due("made but once", x.identifier(3, 1, 1, 0), 4);
    }

    private static void lengthThen(Checks c) {
        c.sentence("its LENGTH then");
        ServiceRows2 x = withThree();
        for (int length = 1; length <= 8; length++) {
            c.due("an octet more", x.dynamic(9, 3, 1), length);
        }
        for (int n = 1; n <= 8; n++) {
            c.due("octets at once", x.dynamic(10 + n, 1, n), n);
        }
        x.dynamic(30, 2, 3);
        c.due("both parts", x.dynamic(30, 1, 4), 7);
    }

    private static void partsOfOthers(Checks c) {
        c.sentence("PUT TOGETHER ones have as octets those of parts of others");
        ServiceRows2 x = withThree();
        x.dynamic(9, 2, 2);
        x.control(2, 0, 0x112233L);
        c.due("the OWN value now", x.value(9), 0x1122L);
        c.put(x, 46, 0, 2, 4, 5, 6);
        c.due("what is written", x.value(9), 0x0405L);
        c.put(x, 16, 2);
        c.put(x, 47, 0, 2, 3, 7, 8, 9);
        c.due("the CONTROL", x.value(9), 0x0708L);
        c.put(x, 16, 2);
        c.due("no CONTROL any more", x.value(9), 0x0405L);
        c.put(x, 17, 1);
        c.due("after a reset", x.value(9), 0);
    }

    private static void noFrom(Checks c) {
        c.sentence("-1 there is no identifier from");
        ServiceRows2 x = withThree();
        x.routine(7, 1);
        int[] unknown = {7, 0, 4, -1, 65536, Integer.MIN_VALUE, Integer.MAX_VALUE};
        for (int from : unknown) {
            c.due("from " + from, x.dynamic(9, from, 1), -1);
        }
        c.due("itself, before it is made", x.dynamic(9, 9, 1), -1);
        c.due("none was made", x.identifier(4, 1, 1, 0), 4);
    }

    private static void idIsNone(Checks c) {
        c.sentence("-2 id is none");
        ServiceRows2 x = withThree();
        int[] none = {-1, 65536, Integer.MIN_VALUE, Integer.MAX_VALUE};
        for (int id : none) {
            c.due("id " + id, x.dynamic(id, 2, 1), -2);
        }
        c.due("0", x.dynamic(0, 2, 1), 1);
        c.due("65535", x.dynamic(65535, 2, 1), 1);
    }

    private static void octetsOutside(Checks c) {
        c.sentence("n is not 1 .. its LENGTH");
        ServiceRows2 x = withThree();
        int[] none = {0, -1, 4, 8, Integer.MIN_VALUE, Integer.MAX_VALUE};
        for (int n : none) {
            c.due("n = " + n + " of three", x.dynamic(9, 2, n), -2);
        }
        c.due("none was made", x.control(9, 0, 1), -1);
        c.due("2 of one", x.dynamic(9, 3, 2), -2);
        c.due("9 of eight", x.dynamic(9, 1, 9), -2);
        c.due("1 of three", x.dynamic(9, 2, 1), 1);
        c.due("3 of three", x.dynamic(10, 2, 3), 3);
        c.due("8 of eight", x.dynamic(11, 1, 8), 8);
    }

    private static void idOfAnother(Checks c) {
        c.sentence("-3 id is another one's");
        ServiceRows2 x = withThree();
        c.due("an ordinary one's", x.dynamic(1, 2, 1), -3);
        c.due("from itself", x.dynamic(2, 2, 1), -3);
        c.due("it is as before", x.value(1), 0x0102030405060708L);
        x.routine(7, 1);
        c.due("a routine's is free", x.dynamic(7, 2, 1), 1);
    }

    private static void fromPutTogether(Checks c) {
        c.sentence("or from is PUT TOGETHER");
        ServiceRows2 x = withThree();
        x.dynamic(9, 2, 3);
        c.due("for a new one", x.dynamic(10, 9, 1), -3);
        c.due("for itself", x.dynamic(9, 9, 1), -3);
        x.dynamic(11, 2, 1);
        c.due("for another one", x.dynamic(11, 9, 1), -3);
        c.due("none was made", x.control(10, 0, 1), -1);
        c.due("as before", x.value(9), 0xA1A2A3L);
        c.due("as before", x.value(11), 0xA1L);
    }

    private static void moreThanEight(Checks c) {
        c.sentence("-4 that would be more than 8");
        ServiceRows2 x = withThree();
        x.dynamic(9, 1, 7);
        c.due("nine", x.dynamic(9, 2, 2), -4);
        c.due("fifteen", x.dynamic(9, 1, 8), -4);
        c.due("as before", x.value(9), 0x01020304050607L);
        c.due("just eight", x.dynamic(9, 2, 1), 8);
        c.due("nine", x.dynamic(9, 3, 1), -4);
        c.due("as before", x.value(9), 0x01020304050607A1L);
    }

    private static void thereAre40(Checks c) {
        c.sentence("or there are 40");
        ServiceRows2 x = with40();
        c.due("a new one", x.dynamic(10, 3, 1), -4);
        c.due("none was made", x.control(10, 0, 1), -1);
        c.due("an old one needs no room among them", x.dynamic(9, 2, 1), 2);
        c.due("its octets", x.value(9), 0xF0A1L);
        ServiceRows2 least = new ServiceRows2();
        least.identifier(0, 1, 1, 0);
        for (int i = 1; i < 40; i++) {
            c.due("PUT TOGETHER " + i, least.dynamic(i, 0, 1), 1);
        }
        c.due("the 41st", least.dynamic(40, 0, 1), -4);
    }

    private static void firstThatFits(Checks c) {
        c.sentence("answer, the first that fits: -1 an unknown number, -2 outside a range, -3 not in this state, -4 no room");
        ServiceRows2 x = with40();
        c.due("-1 before -2, id", x.dynamic(-1, 50, 1), -1);
        c.due("-1 before -2, n", x.dynamic(9, 50, 0), -1);
        c.due("-1 before -3", x.dynamic(1, 50, 1), -1);
        c.due("-1 before -4", x.dynamic(10, 50, 1), -1);
        c.due("-2 before -3, id and from", x.dynamic(-1, 9, 1), -2);
        c.due("-2 before -3, n and id", x.dynamic(1, 2, 4), -2);
        c.due("-2 before -3, n and from", x.dynamic(9, 9, 2), -2);
        c.due("-2 before -4, id", x.dynamic(65536, 2, 1), -2);
        c.due("-2 before -4, n", x.dynamic(10, 2, 4), -2);
        c.due("-3 before -4, id", x.dynamic(1, 2, 1), -3);
        c.due("-3 before -4, from", x.dynamic(10, 9, 1), -3);
        ServiceRows2 full = withThree();
        full.dynamic(9, 1, 8);
        c.due("-2 before -4, eight octets", full.dynamic(9, 2, 4), -2);
        c.due("-3 before -4, eight octets", full.dynamic(9, 9, 1), -3);
    }
}
