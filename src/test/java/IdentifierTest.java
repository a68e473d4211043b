/** Promise 2: identifier. */
public final class IdentifierTest {
    private static final int LOWEST = Integer.MIN_VALUE;
    private static final int HIGHEST = Integer.MAX_VALUE;

    public static void main(String[] args) {
        Checks c = new Checks();
        howMany(c);
        numbers(c);
        lengths(c);
        sessions(c);
        levels(c);
        aNumberIsNone(c);
        atMost40(c);
        thereIsOne(c);
        thereAre40(c);
        firstThatFits(c);
        c.end();
    }

    private static void howMany(Checks c) {
        c.sentence("An identifier: how many there are.");
        ServiceRows2 x = new ServiceRows2();
        c.due("first", x.identifier(700, 4, 2, 2), 1);
        c.due("second", x.identifier(7, 1, 1, 0), 2);
        x.identifier(7, 1, 1, 0);
        x.identifier(8, 0, 1, 0);
        x.routine(9, 1);
        c.due("third, refused ones and routines do not count", x.identifier(9, 1, 1, 0), 3);
        x.dynamic(10, 7, 1);
        c.due("fifth, PUT TOGETHER ones count", x.identifier(11, 1, 1, 0), 5);
    }

    private static void numbers(Checks c) {
        c.sentence("IDENTIFIERS (0 .. 65535");
        ServiceRows2 x = new ServiceRows2();
        int[] none = {-1, 65536, LOWEST, HIGHEST};
        for (int id : none) {
            c.due("identifier " + id, x.identifier(id, 1, 1, 0), -2);
            c.due("it was not made, " + id, x.control(id, 0, 1), -1);
        }
        c.due("0", x.identifier(0, 1, 1, 0), 1);
        c.due("65535", x.identifier(65535, 1, 1, 0), 2);
        c.serves("both are there", x, Checks.q(34, 0, 0, 255, 255), 98, 0, 0, 0, 255, 255, 0);
    }

    private static void lengths(Checks c) {
        c.sentence("have a LENGTH (1 .. 8 octets)");
        ServiceRows2 x = new ServiceRows2();
        int[] none = {0, -1, 9, LOWEST, HIGHEST};
        for (int length : none) {
            c.due("LENGTH " + length, x.identifier(1, length, 1, 0), -2);
        }
        for (int length = 1; length <= 8; length++) {
            c.due("LENGTH " + length, x.identifier(length, length, 1, 0), length);
            c.due("its octets", c.put(x, 34, 0, length), 3 + length);
        }
    }

    private static void sessions(Checks c) {
        c.sentence("a SESSION s (1 .. 3)");
        ServiceRows2 x = new ServiceRows2();
        int[] none = {0, -1, 4, LOWEST, HIGHEST};
        for (int session : none) {
            c.due("SESSION " + session, x.identifier(1, 1, session, 0), -2);
        }
        for (int session = 1; session <= 3; session++) {
            c.due("SESSION " + session, x.identifier(session, 1, session, 0), session);
        }
    }

    private static void levels(Checks c) {
        c.sentence("and a LEVEL (0 .. 3)");
        ServiceRows2 x = new ServiceRows2();
        int[] none = {-1, 4, LOWEST, HIGHEST};
        for (int level : none) {
            c.due("LEVEL " + level, x.identifier(1, 1, 1, level), -2);
        }
        for (int level = 0; level <= 3; level++) {
            c.due("LEVEL " + level, x.identifier(level, 1, 1, level), level + 1);
        }
    }

    private static void aNumberIsNone(Checks c) {
        c.sentence("-2 a number is none");
        ServiceRows2 x = new ServiceRows2();
        int[] ids = {-1, 0, 65535, 65536};
        int[] lengths = {0, 1, 8, 9};
        int[] sessions = {0, 1, 3, 4};
        int[] levels = {-1, 0, 3, 4};
        for (int mask = 0; mask < 256; mask++) {
            int id = mask & 3;
            int length = mask >> 2 & 3;
            int session = mask >> 4 & 3;
            int level = mask >> 6;
            boolean allAre = isInner(id) && isInner(length) && isInner(session) && isInner(level);
            int answered = x.identifier(ids[id], lengths[length], sessions[session], levels[level]);
            c.due("numbers " + mask, answered == -2 ? 1 : 0, allAre ? 0 : 1);
        }
    }

    /** Of four numbers round a range, the first and the last are outside. */
    private static boolean isInner(int place) {
        return place == 1 || place == 2;
    }

    private static void atMost40(Checks c) {
        c.sentence("at most 40");
        ServiceRows2 x = new ServiceRows2();
        int made = 0;
        for (int id = 0; id < 200; id++) {
            made += x.identifier(id, 1, 1, 0) > 0 ? 1 : 0;
            made += id > 0 && x.dynamic(1000 + id, 0, 1) > 0 ? 1 : 0;
        }
        c.due("of both kinds", made, 40);
    }

    private static void thereIsOne(Checks c) {
        c.sentence("-3 there is one");
        ServiceRows2 x = new ServiceRows2();
        x.identifier(1, 2, 1, 0);
        x.control(1, 0, 0x1234);
        c.due("the same", x.identifier(1, 2, 1, 0), -3);
        c.due("with other numbers", x.identifier(1, 8, 3, 3), -3);
        c.serves("it is as before", x, Checks.q(34, 0, 1), 98, 0, 1, 0x12, 0x34);
        x.dynamic(2, 1, 1);
        c.due("a PUT TOGETHER one", x.identifier(2, 1, 1, 0), -3);
        x.routine(3, 1);
        c.due("a routine is none", x.identifier(3, 1, 1, 0), 3);
    }

    private static void thereAre40(Checks c) {
        c.sentence("-4 there are 40");
        ServiceRows2 x = new ServiceRows2();
        for (int i = 0; i < 40; i++) {
            c.due("identifier " + i, x.identifier(i, 1, 1, 0), i + 1);
        }
        c.due("the 41st", x.identifier(40, 1, 1, 0), -4);
        c.due("and again", x.identifier(40, 1, 1, 0), -4);
        c.due("it is not there", x.control(40, 0, 1), -1);
        for (int i = 0; i < 40; i++) {
            c.due("identifier " + i + " is there", x.control(i, 0, i), 1);
        }
        for (int i = 0; i < 40; i++) {
            c.due("value of " + i, x.value(i), i);
        }
        ServiceRows2 mixed = new ServiceRows2();
        for (int i = 0; i < 39; i++) {
            mixed.identifier(i, 1, 1, 0);
        }
        c.due("the 40th is PUT TOGETHER", mixed.dynamic(39, 0, 1), 1);
        c.due("the 41st", mixed.identifier(40, 1, 1, 0), -4);
    }

    private static void firstThatFits(Checks c) {
        c.sentence("answer, the first that fits: -1 an unknown number, -2 outside a range, -3 not in this state, -4 no room");
        ServiceRows2 x = new ServiceRows2();
        for (int i = 0; i < 39; i++) {
            x.identifier(i, 1, 1, 0);
        }
        c.due("-2 before -3", x.identifier(1, 9, 1, 0), -2);
        c.due("-2 before -3", x.identifier(1, 1, 4, 0), -2);
        c.due("-2 before -3", x.identifier(1, 1, 1, 4), -2);
        x.identifier(39, 1, 1, 0);
        c.due("-2 before -4", x.identifier(65536, 1, 1, 0), -2);
        c.due("-2 before -4", x.identifier(40, 0, 1, 0), -2);
        c.due("-3 before -4", x.identifier(39, 1, 1, 0), -3);
    }
}
