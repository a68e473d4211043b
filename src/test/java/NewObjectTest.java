/** Promise 1, and what the terms say holds at first. */
public final class NewObjectTest {
    public static void main(String[] args) {
        Checks c = new Checks();
        noIdentifiers(c);
        noRoutines(c);
        boundZero(c);
        noAnswer(c);
        ownValueZero(c);
        noControl(c);
        conditionsHold(c);
        sessionOne(c);
        levelZero(c);
        timeZero(c);
        objectsAreApart(c);
        lastCall(c);
        c.end();
    }

    private static void noIdentifiers(Checks c) {
        c.sentence("No identifiers");
        ServiceRows2 x = new ServiceRows2();
        int[] ids = {0, 1, 65535};
        for (int id : ids) {
            c.due("control of " + id, x.control(id, 0, 1), -1);
            c.due("value of " + id, x.value(id), 0);
            c.due("part of " + id, x.dynamic(7, id, 1), -1);
        }
        c.refuses("none to be read", x, 49, 34, 0, 0, 0, 1, 255, 255);
        c.due("the first one", x.identifier(0, 1, 1, 0), 1);
    }

    private static void noRoutines(Checks c) {
        c.sentence("no routines");
        ServiceRows2 x = Checks.inSession(2);
        c.refuses("none to be started", x, 49, 49, 1, 0, 0);
        c.due("the first one", x.routine(0, 0), 1);
    }

    private static void boundZero(Checks c) {
        c.sentence("BOUND 0");
        c.due("BOUND", new ServiceRows2().pending(5), 0);
        ServiceRows2 x = Checks.inSession(2);
        x.routine(1, 1);
        c.put(x, 49, 1, 0, 1);
        c.refuses("120 is never told", x, 16, 49, 3, 0, 1);
    }

    private static void noAnswer(Checks c) {
        c.sentence("no ANSWER");
        ServiceRows2 x = new ServiceRows2();
        c.reads("none", x);
        c.due("code of no QUESTION", x.code(), -1);
    }

    private static void ownValueZero(Checks c) {
        c.sentence("an OWN value, at first 0");
        for (int length = 1; length <= 8; length++) {
            ServiceRows2 x = new ServiceRows2();
            x.identifier(3, length, 1, 0);
            c.due("value of " + length + " octets", x.value(3), 0);
        }
    }

    private static void noControl(Checks c) {
        c.sentence("and a CONTROL, or none (at first)");
        ServiceRows2 x = new ServiceRows2();
        x.identifier(3, 1, 1, 0);
        x.control(3, 0, 9);
        c.due("the OWN value shows", x.value(3), 9);
    }

    private static void conditionsHold(Checks c) {
        c.sentence("CONDITIONS 0 (standing) and 1 (quiet) hold at first");
        c.due("with 0 that holds", new ServiceRows2().condition(0, true), 1);
        c.due("with 1 that holds", new ServiceRows2().condition(1, true), 1);
        c.serves("standing", new ServiceRows2(), Checks.q(16, 3), 80, 3);
    }

    private static void sessionOne(Checks c) {
        c.sentence("The present SESSION is 1 at first");
        ServiceRows2 x = new ServiceRows2();
        for (int session = 1; session <= 3; session++) {
            x.identifier(session, 1, session, 0);
            c.codes("an identifier of " + session, x, session == 1 ? 0 : 49, 34, 0, session);
        }
        c.refuses("not 2", x, 127, 49, 1, 0, 0);
        c.due("not one that can end", x.tick(1L << 60), 0);
    }

    private static void levelZero(Checks c) {
        c.sentence("the present LEVEL 0");
        c.due("what it was", new ServiceRows2().rights(3), 0);
        ServiceRows2 x = new ServiceRows2();
        x.identifier(1, 1, 1, 1);
        c.refuses("too low for LEVEL 1", x, 51, 34, 0, 1);
    }

    private static void timeZero(Checks c) {
        c.sentence("the time 0");
        c.due("0", new ServiceRows2().tick(0), 0);
        c.due("-1 is less", new ServiceRows2().tick(-1), -2);
        ServiceRows2 x = Checks.inSession(2);
        c.due("4999 behind a QUESTION at 0", x.tick(4999), 0);
        c.due("5000 behind a QUESTION at 0", x.tick(5000), 1);
    }

    private static void objectsAreApart(Checks c) {
        c.sentence("A new object");
        ServiceRows2 one = new ServiceRows2();
        ServiceRows2 other = new ServiceRows2();
        one.identifier(5, 2, 1, 0);
        one.control(5, 0, 77);
        one.pending(4);
        c.put(one, 62, 0);
        one.ask((byte) 3);
        c.due("value of the one", one.value(5), 77);
        c.due("value of the other", other.value(5), 0);
        c.due("identifiers of the other", other.identifier(6, 1, 1, 0), 1);
        c.due("BOUND of the other", other.pending(0), 0);
        c.due("code of the other", other.code(), -1);
        c.reads("answer of the other", other);
        c.serves("no QUESTION of the other is under way", other, Checks.q(62, 0), 126, 0);
    }

    private static void lastCall(Checks c) {
        c.sentence("An object is used for at most 512 calls after it has been made");
        ServiceRows2 x = new ServiceRows2();
        x.identifier(1, 8, 1, 0);
        for (int call = 2; call <= 511; call++) {
            c.due("call " + call, x.control(1, 0, call), 1);
        }
        c.due("the 512th", x.value(1), 511);
        // What later calls answer is free, but they come back.
        for (int call = 513; call < 600; call++) {
            x.ask((byte) call);
            x.identifier(call, 1, 1, 0);
            x.tick(call);
        }
    }
}
