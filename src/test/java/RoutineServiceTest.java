/** Promise 9, SERVICE 49: routines. */
public final class RoutineServiceTest {
    public static void main(String[] args) {
        Checks c = new Checks();
        order(c);
        life(c);
        withoutSteps(c);
        waits(c);
        c.end();
    }

    private static void order(Checks c) {
        ServiceRows2 x = new ServiceRows2();
        x.routine(0x0201, 3);
        c.refuses("SESSION 1, before the length", x, 127, 49);
        c.put(x, 16, 2);
        c.refuses("n = 0", x, 19, 49);
        c.refuses("n = 2", x, 19, 49, 1, 2);
        c.refuses("n = 4", x, 19, 49, 1, 2, 1, 0);
        c.refuses("f = 0, before it is looked for", x, 18, 49, 0, 9, 9);
        c.refuses("f = 4", x, 18, 49, 4, 2, 1);
        c.refuses("unknown", x, 49, 49, 1, 1, 2);
        c.refuses("result before it is started", x, 36, 49, 3, 2, 1);
        c.refuses("end before it is started", x, 36, 49, 2, 2, 1);
        x.condition(0, false);
        c.refuses("not standing", x, 34, 49, 1, 2, 1);
        c.refuses("so it was not started", x, 36, 49, 3, 2, 1);
        x.condition(0, true);
        c.put(x, 49, 1, 2, 1);
        x.condition(0, false);
        c.refuses("some left, before standing", x, 36, 49, 1, 2, 1);
        c.serves("ended without standing", x, Checks.q(49, 2, 2, 1), 113, 2, 2, 1, 0);
        c.serves("result without standing", x, Checks.q(49, 3, 2, 1), 113, 3, 2, 1, 0);
        c.refuses("none left, not standing", x, 34, 49, 1, 2, 1);
    }

    private static void life(Checks c) {
        ServiceRows2 x = Checks.inSession(3);
        x.routine(1, 2);
        x.routine(2, 5);
        c.serves("started", x, Checks.q(49, 1, 0, 1), 113, 1, 0, 1, 2);
        c.refuses("some left", x, 36, 49, 1, 0, 1);
        x.tick(0);
        c.refuses("one left", x, 36, 49, 1, 0, 1);
        x.tick(0);
        c.serves("none left", x, Checks.q(49, 3, 0, 1), 113, 3, 0, 1, 0);
        x.tick(0);
        c.serves("none left", x, Checks.q(49, 3, 0, 1), 113, 3, 0, 1, 0);
        c.serves("started again", x, Checks.q(49, 1, 0, 1), 113, 1, 0, 1, 2);
        c.serves("ended", x, Checks.q(49, 2, 0, 1), 113, 2, 0, 1, 0);
        c.serves("ended twice", x, Checks.q(49, 2, 0, 1), 113, 2, 0, 1, 0);
        c.serves("its result", x, Checks.q(49, 3, 0, 1), 113, 3, 0, 1, 0);
        c.serves("started after its end", x, Checks.q(49, 1, 0, 1), 113, 1, 0, 1, 2);
        c.refuses("another one is not started", x, 36, 49, 3, 0, 2);
        c.serves("and has its steps still", x, Checks.q(49, 1, 0, 2), 113, 1, 0, 2, 5);
    }

    private static void withoutSteps(Checks c) {
        ServiceRows2 x = Checks.inSession(2);
        x.routine(7, 0);
        c.refuses("not started", x, 36, 49, 3, 0, 7);
        c.serves("started", x, Checks.q(49, 1, 0, 7), 113, 1, 0, 7, 0);
        c.serves("at once again", x, Checks.q(49, 1, 0, 7), 113, 1, 0, 7, 0);
        c.serves("its result", x, Checks.q(49, 3, 0, 7), 113, 3, 0, 7, 0);
        x.tick(3);
        c.serves("its result later", x, Checks.q(49, 3, 0, 7), 113, 3, 0, 7, 0);
    }

    private static void waits(Checks c) {
        ServiceRows2 x = Checks.inSession(2);
        x.routine(1, 1);
        c.put(x, 49, 1, 0, 1);
        c.refuses("BOUND 0", x, 16, 49, 3, 0, 1);
        x.pending(10);
        for (int i = 0; i < 10; i++) {
            c.refuses("told " + i, x, 120, 49, 3, 0, 1);
        }
        c.refuses("told 10 times", x, 16, 49, 3, 0, 1);
        x.tick(1);
        c.serves("then it is done", x, Checks.q(49, 3, 0, 1), 113, 3, 0, 1, 0);
        c.put(x, 49, 1, 0, 1);
        c.refuses("told anew", x, 120, 49, 3, 0, 1);
    }
}
