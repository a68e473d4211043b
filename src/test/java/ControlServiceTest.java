/** Promise 9, SERVICE 47: controls. */
public final class ControlServiceTest {
    public static void main(String[] args) {
        Checks c = new Checks();
        session(c);
        shortest(c);
        identifier(c);
        level(c);
        kinds(c);
        nothingMore(c);
        lengthOctets(c);
        none(c);
        zero(c);
        asItIs(c);
        theseOctets(c);
        answer(c);
        orderOfChecks(c);
        c.end();
    }

    private static ServiceRows2 withOne(int session) {
        ServiceRows2 x = Checks.inSession(session);
        x.identifier(1, 2, 1, 0);
        x.control(1, 0, 0x0304);
        return x;
    }

    private static void session(Checks c) {
        c.sentence("47: not SESSION 1, or 127");
        for (int session = 1; session <= 3; session++) {
            ServiceRows2 x = withOne(session);
            c.codes("in SESSION " + session, x, session == 1 ? 127 : 0, 47, 0, 1, 1);
            c.due("done or not", x.value(1), session == 1 ? 0x0304 : 0);
        }
    }

    private static void shortest(Checks c) {
        c.sentence("n > 2, or 19; HERE");
        ServiceRows2 x = withOne(2);
        c.refuses("n = 0", x, 19, 47);
        c.refuses("n = 1", x, 19, 47, 0);
        c.refuses("n = 2", x, 19, 47, 0, 1);
        c.serves("n = 3", x, Checks.q(47, 0, 1, 1), 111, 0, 1, 1);
    }

    private static void identifier(Checks c) {
        c.sentence("HERE, and not PUT TOGETHER, or 49");
        ServiceRows2 x = withOne(2);
        x.identifier(2, 1, 2, 0);
        x.identifier(3, 1, 3, 0);
        x.dynamic(4, 1, 1);
        c.refuses("unknown", x, 49, 47, 0, 9, 1);
        c.refuses("not here", x, 49, 47, 0, 3, 1);
        c.refuses("PUT TOGETHER", x, 49, 47, 0, 4, 1);
        c.serves("just here", x, Checks.q(47, 0, 2, 1), 111, 0, 2, 1);
        x.control(1, 1, 0);
        c.serves("one that may not be written", x, Checks.q(47, 0, 1, 1), 111, 0, 1, 1);
    }

    private static void level(Checks c) {
        c.sentence("the LEVEL, or 51");
        for (int needed = 0; needed <= 3; needed++) {
            ServiceRows2 x = Checks.inSession(2);
            x.identifier(1, 1, 1, needed);
            for (int present = 0; present <= 3; present++) {
                x.rights(present);
                c.codes("LEVEL " + needed + " at " + present, x, needed > present ? 51 : 0, 47, 0, 1, 3, 9);
                c.due("done or not", x.value(1), needed > present ? 0 : 9);
            }
        }
    }

    private static void kinds(Checks c) {
        c.sentence("the octet behind it, k, is 0 .. 3, or 49");
        ServiceRows2 x = withOne(2);
        for (int k = 0; k <= 2; k++) {
            c.serves("k = " + k, x, Checks.q(47, 0, 1, k), 111, 0, 1, k);
        }
        c.serves("k = 3", x, Checks.q(47, 0, 1, 3, 1, 1), 111, 0, 1, 3);
        int[] none = {4, 5, 127, 128, 129, 131, 255};
        for (int k : none) {
            c.refuses("k = " + k, x, 49, 47, 0, 1, k);
        }
        c.due("as before", x.value(1), 257);
    }

    private static void nothingMore(Checks c) {
        c.sentence("nothing more");
        ServiceRows2 x = withOne(2);
        for (int k = 0; k <= 2; k++) {
            c.refuses("an octet more", x, 19, 47, 0, 1, k, 1);
            c.refuses("LENGTH octets more", x, 19, 47, 0, 1, k, 1, 1);
        }
        c.due("not done", x.value(1), 0x0304);
    }

    private static void lengthOctets(Checks c) {
        c.sentence("with k = 3 LENGTH octets, or 19");
        for (int length = 1; length <= 8; length++) {
            ServiceRows2 x = Checks.inSession(2);
            x.identifier(1, length, 1, 0);
            for (int octets = 0; octets <= 10; octets++) {
                int[] question = new int[4 + octets];
                question[0] = 47;
                question[2] = 1;
                question[3] = 3;
                c.codes(octets + " octets for " + length, x, octets == length ? 0 : 19, question);
            }
        }
    }

    private static void none(Checks c) {
        c.sentence("k = 0: no CONTROL");
        ServiceRows2 x = withOne(2);
        c.put(x, 47, 0, 1, 1);
        c.serves("returned", x, Checks.q(47, 0, 1, 0), 111, 0, 1, 0);
        c.due("its own", x.value(1), 0x0304);
        c.serves("returned twice", x, Checks.q(47, 0, 1, 0), 111, 0, 1, 0);
        c.due("its own", x.value(1), 0x0304);
    }

    private static void zero(Checks c) {
        c.sentence("1: CONTROL 0");
        ServiceRows2 x = withOne(2);
        c.serves("0", x, Checks.q(47, 0, 1, 1), 111, 0, 1, 1);
        c.due("0", x.value(1), 0);
        x.control(1, 0, 5);
        c.due("still 0", x.value(1), 0);
        c.put(x, 47, 0, 1, 3, 7, 7);
        c.put(x, 47, 0, 1, 1);
        c.due("0 after another CONTROL", x.value(1), 0);
    }

    private static void asItIs(Checks c) {
        c.sentence("2: CONTROL the VALUE as it is");
        ServiceRows2 x = withOne(2);
        c.serves("the OWN one", x, Checks.q(47, 0, 1, 2), 111, 0, 1, 2);
        x.control(1, 0, 6);
        c.due("as it was", x.value(1), 0x0304);
        c.put(x, 47, 0, 1, 3, 7, 8);
        c.serves("the CONTROL's", x, Checks.q(47, 0, 1, 2), 111, 0, 1, 2);
        c.due("the same", x.value(1), 0x0708);
        x.identifier(2, 8, 1, 0);
        x.control(2, 0, -5);
        c.put(x, 47, 0, 2, 2);
        x.control(2, 0, 1);
        c.due("eight octets", x.value(2), -5);
    }

    private static void theseOctets(Checks c) {
        c.sentence("3: CONTROL these octets as for 46");
        for (int length = 1; length <= 8; length++) {
            ServiceRows2 x = Checks.inSession(3);
            x.identifier(0x0701, length, 1, 0);
            x.control(0x0701, 0, 5);
            int[] question = new int[4 + length];
            question[0] = 47;
            question[1] = 7;
            question[2] = 1;
            question[3] = 3;
            long want = 0;
            for (int i = 0; i < length; i++) {
                question[4 + i] = 0xF1 + i;
                want = want * 256 + 0xF1 + i;
            }
            c.serves("47", x, question, 111, 7, 1, 3);
            c.due(length + " octets, without sign but for 8", x.value(0x0701), want);
            c.put(x, 47, 7, 1, 0);
            c.due("the OWN value is as before", x.value(0x0701), 5);
        }
    }

    private static void answer(Checks c) {
        c.sentence("111, itself, k.");
        ServiceRows2 x = Checks.inSession(2);
        x.identifier(0xFE01, 1, 1, 0);
        for (int k = 0; k <= 2; k++) {
            c.serves("k = " + k, x, Checks.q(47, 0xFE, 1, k), 111, 0xFE, 1, k);
        }
        c.serves("k = 3", x, Checks.q(47, 0xFE, 1, 3, 9), 111, 0xFE, 1, 3);
    }

    private static void orderOfChecks(Checks c) {
        c.sentence("The checks, in their order; the first that fails gives its code");
        ServiceRows2 x = new ServiceRows2();
        x.identifier(1, 2, 1, 1);
        x.identifier(2, 2, 3, 1);
        x.dynamic(3, 1, 1);
        c.refuses("SESSION before n", x, 127, 47);
        c.refuses("SESSION before HERE", x, 127, 47, 0, 9, 1);
        c.refuses("SESSION before the LEVEL", x, 127, 47, 0, 1, 1);
        c.put(x, 16, 2);
        c.refuses("n before HERE", x, 19, 47, 0, 9);
        c.refuses("n before the LEVEL", x, 19, 47, 0, 1);
        c.refuses("HERE before the LEVEL", x, 49, 47, 0, 2, 1);
        c.refuses("HERE before the octets", x, 49, 47, 0, 9, 1, 1);
        c.refuses("PUT TOGETHER before the octets", x, 49, 47, 0, 3, 1, 1);
        c.refuses("the LEVEL before k", x, 51, 47, 0, 1, 4);
        c.refuses("the LEVEL before the octets", x, 51, 47, 0, 1, 1, 1);
        x.rights(1);
        c.refuses("k before the octets", x, 49, 47, 0, 1, 4, 1);
        x.condition(0, false);
        c.serves("standing is not asked for", x, Checks.q(47, 0, 1, 1), 111, 0, 1, 1);
    }
}
