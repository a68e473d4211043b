/** Promise 9, SERVICES 16, 62 and 17: sessions, being present, resets. */
public final class SessionServiceTest {
    public static void main(String[] args) {
        Checks c = new Checks();
        sessions(c);
        whatASessionEnds(c);
        present(c);
        resets(c);
        resetsOfRoutines(c);
        c.end();
    }

    private static void sessions(Checks c) {
        ServiceRows2 x = new ServiceRows2();
        for (int session = 1; session <= 3; session++) {
            x.identifier(session, 1, session, 0);
        }
        for (int session = 3; session >= 1; session--) {
            c.serves("16", x, Checks.q(16, session), 80, session);
            for (int id = 1; id <= 3; id++) {
                c.put(x, 34, 0, id);
                c.due("identifier of " + id + " in " + session, x.code(), id <= session ? 0 : 49);
            }
        }
        c.refuses("n = 0", x, 19, 16);
        c.refuses("n = 2", x, 19, 16, 2, 2);
        c.refuses("the length first", x, 19, 16, 9, 9);
        c.refuses("f = 0", x, 18, 16, 0);
        c.refuses("f = 4", x, 18, 16, 4);
        c.refuses("f = 127", x, 18, 16, 127);
        x.condition(0, false);
        c.refuses("not standing", x, 34, 16, 3);
        c.refuses("not standing, without an ANSWER", x, 34, 16, 131);
        c.refuses("function before standing", x, 18, 16, 4);
        c.serves("2 without standing", x, Checks.q(16, 2), 80, 2);
        c.serves("1 without standing", x, Checks.q(16, 1), 80, 1);
    }

    private static void whatASessionEnds(Checks c) {
        for (int next = 1; next <= 3; next++) {
            ServiceRows2 x = Checks.inSession(3);
            x.identifier(1, 1, 1, 1);
            x.routine(1, 7);
            x.control(1, 0, 5);
            x.rights(1);
            c.put(x, 47, 0, 1, 1);
            c.put(x, 52, 0, 9);
            c.put(x, 49, 1, 0, 1);
            c.due("a control", x.value(1), 0);
            c.refuses("a refused one ends nothing", x, 18, 16, 4);
            c.due("still controlled", x.value(1), 0);
            c.put(x, 16, next);
            c.due("no control", x.value(1), 5);
            c.due("LEVEL 0", x.rights(3), 0);
            c.put(x, 16, 3);
            c.refuses("no transfer", x, 36, 54, 1, 1);
            c.serves("the routine goes on", x, Checks.q(49, 2, 0, 1), 113, 2, 0, 1, 0);
        }
    }

    private static void present(Checks c) {
        ServiceRows2 x = new ServiceRows2();
        c.serves("62", x, Checks.q(62, 0), 126, 0);
        c.refuses("n = 0", x, 19, 62);
        c.refuses("n = 2", x, 19, 62, 0, 0);
        c.refuses("f = 1", x, 18, 62, 1);
        x.condition(0, false);
        x.rights(2);
        c.serves("without standing", x, Checks.q(62, 0), 126, 0);
        c.due("it ends nothing", x.rights(0), 2);
    }

    private static void resets(Checks c) {
        for (int f = 1; f <= 3; f += 2) {
            ServiceRows2 x = Checks.inSession(3);
            x.identifier(1, 2, 1, 1);
            x.control(1, 0, 0x0304);
            x.rights(1);
            c.put(x, 47, 0, 1, 3, 9, 9);
            c.put(x, 52, 0, 9);
            c.refuses("n = 0", x, 19, 17);
            c.refuses("n = 2", x, 19, 17, f, f);
            c.refuses("f = 0", x, 18, 17, 0);
            c.refuses("f = 2", x, 18, 17, 2);
            c.refuses("f = 4", x, 18, 17, 4);
            x.condition(0, false);
            c.refuses("not standing", x, 34, 17, f);
            c.refuses("function before standing", x, 18, 17, 2);
            x.condition(0, true);
            c.due("nothing is done", x.value(1), 0x0909);
            c.serves("17", x, Checks.q(17, f), 81, f);
            c.due("own values", x.value(1), f == 1 ? 0 : 0x0304);
            c.due("LEVEL", x.rights(0), 0);
            c.refuses("SESSION 1", x, 127, 52, 0, 9);
            c.put(x, 16, 3);
            c.serves("no transfer", x, Checks.q(52, 0, 9), 116, 8);
            c.due("the identifier stays", x.control(1, 0, 1), 1);
        }
    }

    private static void resetsOfRoutines(Checks c) {
        for (int f = 1; f <= 3; f += 2) {
            ServiceRows2 x = Checks.inSession(2);
            x.routine(1, 4);
            x.routine(2, 0);
            c.put(x, 49, 1, 0, 1);
            c.put(x, 49, 1, 0, 2);
            c.put(x, 17, f);
            c.put(x, 16, 2);
            c.refuses("not started any more", x, 36, 49, 3, 0, 1);
            c.refuses("not started any more", x, 36, 49, 2, 0, 2);
            c.due("a step of none", x.tick(1), 0);
            c.serves("started again", x, Checks.q(49, 1, 0, 1), 113, 1, 0, 1, 4);
        }
    }
}
