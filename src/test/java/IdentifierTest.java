/** Promise 2: identifier. */
public final class IdentifierTest {
    public static void main(String[] args) {
        Checks c = new Checks();
        ranges(c);
        orderOfRefusals(c);
        room(c);
        refusalsChangeNothing(c);
        c.end();
    }

    private static void ranges(Checks c) {
        ServiceRows2 x = new ServiceRows2();
        int[] ids = {-1, 65536, Integer.MIN_VALUE, Integer.MAX_VALUE};
        for (int id : ids) {
            c.due("identifier " + id, x.identifier(id, 1, 1, 0), -2);
        }
        int[] lengths = {0, -1, 9, Integer.MIN_VALUE, Integer.MAX_VALUE};
        for (int length : lengths) {
            c.due("length " + length, x.identifier(1, length, 1, 0), -2);
        }
        int[] sessions = {0, -1, 4, Integer.MIN_VALUE, Integer.MAX_VALUE};
        for (int session : sessions) {
            c.due("session " + session, x.identifier(1, 1, session, 0), -2);
        }
        int[] levels = {-1, 4, Integer.MIN_VALUE, Integer.MAX_VALUE};
        for (int level : levels) {
            c.due("level " + level, x.identifier(1, 1, 1, level), -2);
        }
        c.due("lowest numbers", x.identifier(0, 1, 1, 0), 1);
        c.due("highest numbers", x.identifier(65535, 8, 3, 3), 2);
        c.due("between", x.identifier(700, 4, 2, 2), 3);
    }

    private static void orderOfRefusals(Checks c) {
        ServiceRows2 x = new ServiceRows2();
        x.identifier(1, 1, 1, 0);
        c.due("there is one", x.identifier(1, 1, 1, 0), -3);
        c.due("there is one with other numbers", x.identifier(1, 8, 3, 3), -3);
        c.due("a range before the state", x.identifier(1, 9, 1, 0), -2);
        x.dynamic(2, 1, 1);
        c.due("there is a put together one", x.identifier(2, 1, 1, 0), -3);
        x.routine(3, 1);
        c.due("a routine is no identifier", x.identifier(3, 1, 1, 0), 3);
    }

    private static void room(Checks c) {
        ServiceRows2 x = new ServiceRows2();
        for (int i = 0; i < 39; i++) {
            c.due("identifier " + i, x.identifier(i, 1, 1, 0), i + 1);
        }
        c.due("the 40th is put together", x.dynamic(39, 0, 1), 1);
        c.due("the 41st", x.identifier(40, 1, 1, 0), -4);
        c.due("state before room", x.identifier(39, 1, 1, 0), -3);
        c.due("range before room", x.identifier(40, 0, 1, 0), -2);
        c.due("the 41st is not there", x.control(40, 0, 1), -1);
        c.due("the 39th is there", x.control(38, 0, 1), 1);
    }

    private static void refusalsChangeNothing(Checks c) {
        ServiceRows2 x = new ServiceRows2();
        x.identifier(1, 2, 1, 0);
        x.control(1, 0, 0x1234);
        x.identifier(1, 1, 3, 3);
        x.identifier(2, 9, 1, 0);
        c.due("value as before", x.value(1), 0x1234);
        c.serves("numbers as before", x, Checks.q(34, 0, 1), 98, 0, 1, 0x12, 0x34);
        c.due("none was made", x.control(2, 0, 0), -1);
        c.due("how many there are", x.identifier(2, 1, 1, 0), 2);
    }
}
