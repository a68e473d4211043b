/** Promise 9, SERVICES 16, 62 and 17: sessions, being present, resets. */
public final class SessionServiceTest {
    public static void main(String[] args) {
        Checks c = new Checks();
        sessionLength(c);
        sessionFunction(c);
        sessionStanding(c);
        sessionChanges(c);
        sessionEnds(c);
        presentLength(c);
        presentFunction(c);
        present(c);
        resetLength(c);
        resetFunction(c);
        resetStanding(c);
        resetEnds(c);
        resetRoutines(c);
        resetValues(c);
        resetAnswer(c);
        orderOfChecks(c);
        c.end();
    }

    private static void sessionLength(Checks c) {
        c.sentence("16: n = 1, or 19");
        ServiceRows2 x = new ServiceRows2();
        c.refuses("n = 0", x, 19, 16);
        c.refuses("n = 2", x, 19, 16, 2, 2);
        c.refuses("n = 3", x, 19, 16, 2, 2, 2);
        c.serves("n = 1", x, Checks.q(16, 2), 80, 2);
    }

    private static void sessionFunction(Checks c) {
        c.sentence("f is 1 .. 3, or 18; f is not 3");
        for (int f = 0; f < 128; f++) {
            ServiceRows2 x = new ServiceRows2();
            if (f >= 1 && f <= 3) {
                c.serves("f = " + f, x, Checks.q(16, f), 80, f);
            } else {
                c.refuses("f = " + f, x, 18, 16, f);
                c.refuses("without an ANSWER, f = " + f, x, 18, 16, f + 128);
            }
        }
    }

    private static void sessionStanding(Checks c) {
        c.sentence("f is not 3, or standing, or 34");
        ServiceRows2 x = new ServiceRows2();
        x.condition(0, false);
        c.refuses("3", x, 34, 16, 3);
        c.refuses("3 without an ANSWER", x, 34, 16, 131);
        c.refuses("it is still SESSION 1", x, 127, 49, 1, 0, 0);
        c.serves("2", x, Checks.q(16, 2), 80, 2);
        c.serves("1", x, Checks.q(16, 1), 80, 1);
        x.condition(0, true);
        x.condition(1, false);
        c.serves("3, standing but not quiet", x, Checks.q(16, 3), 80, 3);
    }

    private static void sessionChanges(Checks c) {
        c.sentence("The present SESSION ENDS, f is the present one. ANSWER 80 f.");
        for (int from = 1; from <= 3; from++) {
            for (int to = 1; to <= 3; to++) {
                ServiceRows2 x = Checks.inSession(from);
                x.identifier(2, 1, 2, 0);
                x.identifier(3, 1, 3, 0);
                x.rights(1);
                c.serves(from + " to " + to, x, Checks.q(16, to), 80, to);
                c.codes("one of SESSION 2", x, to >= 2 ? 0 : 49, 34, 0, 2);
                c.codes("one of SESSION 3", x, to >= 3 ? 0 : 49, 34, 0, 3);
                c.due("the one before ENDED", x.rights(0), 0);
            }
        }
    }

    private static void sessionEnds(Checks c) {
        c.sentence("When the SESSION ENDS: no CONTROLS, no TRANSFER, present LEVEL 0.");
        for (int next = 1; next <= 3; next++) {
            ServiceRows2 x = Checks.inSession(3);
            x.identifier(1, 1, 1, 1);
            x.identifier(2, 1, 3, 0);
            x.routine(1, 7);
            x.control(1, 0, 5);
            x.control(2, 0, 6);
            x.rights(1);
            c.put(x, 47, 0, 1, 1);
            c.put(x, 47, 0, 2, 3, 77);
            c.put(x, 52, 0, 9);
            c.put(x, 49, 1, 0, 1);
            c.refuses("a failed check ENDS nothing", x, 18, 16, 4);
            c.due("still controlled", x.value(1), 0);
            c.due("still controlled", x.value(2), 77);
            c.due("the TRANSFER is still open", x.transfer(1, (byte) 1), 1);
            c.due("still the LEVEL", x.rights(1), 1);
            c.put(x, 16, next);
            c.due("no CONTROL", x.value(1), 5);
            c.due("no CONTROL", x.value(2), 6);
            c.due("LEVEL 0", x.rights(3), 0);
            c.put(x, 16, 3);
            c.refuses("no TRANSFER", x, 36, 54, 2, 1);
            c.serves("a routine goes on", x, Checks.q(49, 2, 0, 1), 113, 2, 0, 1, 0);
        }
    }

    private static void presentLength(Checks c) {
        c.sentence("62: n = 1, or 19");
        ServiceRows2 x = new ServiceRows2();
        c.refuses("n = 0", x, 19, 62);
        c.refuses("n = 2", x, 19, 62, 0, 0);
        c.serves("n = 1", x, Checks.q(62, 0), 126, 0);
    }

    private static void presentFunction(Checks c) {
        c.sentence("f = 0, or 18");
        ServiceRows2 x = new ServiceRows2();
        int[] none = {1, 2, 127, 129, 255};
        for (int f : none) {
            c.refuses("f = " + f, x, 18, 62, f);
        }
        c.isSilent("f = 0 without an ANSWER", x, false, 0, 62, 128);
    }

    private static void present(Checks c) {
        c.sentence("126 0");
        for (int session = 1; session <= 3; session++) {
            ServiceRows2 x = Checks.inSession(session);
            x.condition(0, false);
            x.rights(2);
            c.serves("62 in SESSION " + session, x, Checks.q(62, 0), 126, 0);
            c.due("it ENDS nothing", x.rights(0), 2);
            c.codes("the SESSION is as before", x, session == 1 ? 127 : 19, 49);
        }
    }

    private static void resetLength(Checks c) {
        c.sentence("17: n = 1, or 19");
        ServiceRows2 x = new ServiceRows2();
        c.refuses("n = 0", x, 19, 17);
        c.refuses("n = 2", x, 19, 17, 1, 1);
        c.serves("n = 1", x, Checks.q(17, 1), 81, 1);
    }

    private static void resetFunction(Checks c) {
        c.sentence("f is 1 or 3, or 18");
        for (int f = 0; f < 128; f++) {
            ServiceRows2 x = new ServiceRows2();
            if (f == 1 || f == 3) {
                c.serves("f = " + f, x, Checks.q(17, f), 81, f);
            } else {
                c.refuses("f = " + f, x, 18, 17, f);
            }
        }
    }

    private static void resetStanding(Checks c) {
        c.sentence("standing, or 34. The SESSION ENDS, 1 is the present one");
        for (int f = 1; f <= 3; f += 2) {
            ServiceRows2 x = Checks.inSession(2);
            x.rights(2);
            x.condition(0, false);
            c.refuses("not standing", x, 34, 17, f);
            c.codes("still SESSION 2", x, 19, 49);
            c.due("still LEVEL 2", x.rights(2), 2);
            x.condition(0, true);
            x.condition(1, false);
            c.serves("standing but not quiet", x, Checks.q(17, f), 81, f);
        }
    }

    private static void resetEnds(Checks c) {
        c.sentence("The SESSION ENDS, 1 is the present one");
        for (int f = 1; f <= 3; f += 2) {
            for (int session = 1; session <= 3; session++) {
                ServiceRows2 x = Checks.inSession(session);
                x.identifier(1, 1, 1, 1);
                x.rights(1);
                x.control(1, 0, 6);
                c.put(x, 47, 0, 1, 1);
                c.put(x, 52, 0, 9);
                c.serves("17", x, Checks.q(17, f), 81, f);
                c.due("LEVEL 0", x.rights(0), 0);
                c.due("no CONTROL", x.value(1), f == 1 ? 0 : 6);
                x.control(1, 0, 7);
                c.due("the OWN value shows", x.value(1), 7);
                c.refuses("SESSION 1", x, 127, 49, 1, 0, 1);
                c.put(x, 16, 3);
                c.serves("no TRANSFER", x, Checks.q(52, 0, 9), 116, 8);
            }
        }
    }

    private static void resetRoutines(Checks c) {
        c.sentence("ROUTINES are STARTED no more");
        for (int f = 1; f <= 3; f += 2) {
            ServiceRows2 x = Checks.inSession(2);
            x.routine(1, 4);
            x.routine(2, 0);
            c.put(x, 49, 1, 0, 1);
            c.put(x, 49, 1, 0, 2);
            c.put(x, 17, f);
            c.put(x, 16, 2);
            c.refuses("no result of one with some LEFT", x, 36, 49, 3, 0, 1);
            c.refuses("no end of it", x, 36, 49, 2, 0, 1);
            c.refuses("no result of one with none LEFT", x, 36, 49, 3, 0, 2);
            c.due("no step", x.tick(1), 0);
            c.serves("STARTED again", x, Checks.q(49, 1, 0, 1), 113, 1, 0, 1, 4);
        }
    }

    private static void resetValues(Checks c) {
        c.sentence("if f is 1, OWN values are 0");
        for (int f = 1; f <= 3; f += 2) {
            ServiceRows2 x = new ServiceRows2();
            for (int i = 0; i < 40; i++) {
                x.identifier(i, 1, 1 + i % 3, i % 4);
                x.control(i, 0, i + 1);
            }
            c.put(x, 17, f);
            for (int i = 0; i < 40; i++) {
                c.due("value of " + i + " after 17 " + f, x.value(i), f == 1 ? 0 : i + 1);
            }
            c.due("they are still there", x.identifier(40, 1, 1, 0), -4);
        }
    }

    private static void resetAnswer(Checks c) {
        c.sentence("81 f");
        for (int session = 1; session <= 3; session++) {
            c.serves("f = 1", Checks.inSession(session), Checks.q(17, 1), 81, 1);
            c.serves("f = 3", Checks.inSession(session), Checks.q(17, 3), 81, 3);
        }
    }

    private static void orderOfChecks(Checks c) {
        c.sentence("The checks, in their order; the first that fails gives its code");
        ServiceRows2 x = new ServiceRows2();
        x.condition(0, false);
        c.refuses("16, length before f", x, 19, 16, 9, 9);
        c.refuses("16, length before standing", x, 19, 16, 3, 3);
        c.refuses("16, f before standing", x, 18, 16, 4);
        c.refuses("62, length before f", x, 19, 62, 1, 1);
        c.refuses("17, length before f", x, 19, 17, 2, 2);
        c.refuses("17, length before standing", x, 19, 17);
        c.refuses("17, f before standing", x, 18, 17, 2);
    }
}
