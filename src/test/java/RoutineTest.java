/** Promise 4: routine. */
public final class RoutineTest {
    public static void main(String[] args) {
        Checks c = new Checks();
        ServiceRows2 x = new ServiceRows2();
        int[] ids = {-1, 65536, Integer.MIN_VALUE, Integer.MAX_VALUE};
        for (int id : ids) {
            c.due("routine " + id, x.routine(id, 1), -2);
        }
        int[] steps = {-1, 101, Integer.MIN_VALUE, Integer.MAX_VALUE};
        for (int step : steps) {
            c.due("steps " + step, x.routine(1, step), -2);
        }
        c.due("lowest numbers", x.routine(0, 0), 1);
        c.due("highest numbers", x.routine(65535, 100), 2);
        c.due("there is one", x.routine(65535, 3), -3);
        c.due("range before state", x.routine(65535, 101), -2);
        x.identifier(7, 1, 1, 0);
        c.due("an identifier is no routine", x.routine(7, 7), 3);
        for (int i = 3; i < 10; i++) {
            c.due("routine", x.routine(100 + i, 1), i + 1);
        }
        c.due("there are 10", x.routine(200, 1), -4);
        c.due("state before room", x.routine(0, 1), -3);
        c.due("range before room", x.routine(200, -1), -2);
        c.put(x, 16, 2);
        c.serves("steps as at first", x, Checks.q(49, 1, 255, 255), 113, 1, 255, 255, 100);
        c.serves("the tenth", x, Checks.q(49, 1, 0, 109), 113, 1, 0, 109, 1);
        c.refuses("none was made", x, 49, 49, 1, 0, 200);
        c.end();
    }
}
