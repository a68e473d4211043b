/** Promise 9, SERVICE 46: writing. */
public final class WriteServiceTest {
    public static void main(String[] args) {
        Checks c = new Checks();
        shortest(c);
        identifier(c);
        length(c);
        level(c);
        standing(c);
        ownValue(c);
        answer(c);
        orderOfChecks(c);
        c.end();
    }

    private static void shortest(Checks c) {
        c.sentence("46: n > 2, or 19");
        ServiceRows2 x = new ServiceRows2();
        x.identifier(1, 1, 1, 0);
        c.refuses("n = 0", x, 19, 46);
        c.refuses("n = 1", x, 19, 46, 0);
        c.refuses("n = 2", x, 19, 46, 0, 1);
        c.serves("n = 3", x, Checks.q(46, 0, 1, 9), 110, 0, 1);
    }

    private static void identifier(Checks c) {
        c.sentence("the identifier is HERE, not PUT TOGETHER, and may be written, or 49");
        ServiceRows2 x = new ServiceRows2();
        x.identifier(1, 1, 1, 0);
        x.identifier(2, 1, 2, 0);
        x.identifier(3, 1, 3, 0);
        x.dynamic(4, 1, 1);
        c.refuses("unknown", x, 49, 46, 0, 9, 1);
        c.refuses("not here", x, 49, 46, 0, 2, 1);
        c.refuses("PUT TOGETHER", x, 49, 46, 0, 4, 1);
        x.control(1, 1, 0);
        c.refuses("may not be written", x, 49, 46, 0, 1, 1);
        x.control(1, 1, 1);
        c.serves("may be written", x, Checks.q(46, 0, 1, 1), 110, 0, 1);
        c.put(x, 16, 2);
        c.serves("just here", x, Checks.q(46, 0, 2, 1), 110, 0, 2);
        c.refuses("not here", x, 49, 46, 0, 3, 1);
    }

    private static void length(Checks c) {
        c.sentence("the octets behind it are LENGTH, or 19");
        for (int length = 1; length <= 8; length++) {
            ServiceRows2 x = new ServiceRows2();
            x.identifier(1, length, 1, 0);
            for (int octets = 1; octets <= 10; octets++) {
                int[] question = new int[3 + octets];
                question[0] = 46;
                question[2] = 1;
                c.codes(octets + " octets for " + length, x, octets == length ? 0 : 19, question);
            }
            int[] most = new int[60];
            most[0] = 46;
            most[2] = 1;
            c.codes("57 octets for " + length, x, 19, most);
        }
    }

    private static void level(Checks c) {
        c.sentence("the LEVEL, or 51");
        for (int needed = 0; needed <= 3; needed++) {
            ServiceRows2 x = new ServiceRows2();
            x.identifier(1, 1, 1, needed);
            for (int present = 0; present <= 3; present++) {
                x.rights(present);
                c.codes("LEVEL " + needed + " at " + present, x, needed > present ? 51 : 0, 46, 0, 1, present + 1);
                c.due("written or not", x.value(1), needed > present ? 0 : present + 1);
            }
        }
    }

    private static void standing(Checks c) {
        c.sentence("standing, or 34. The OWN value is these octets");
        ServiceRows2 x = new ServiceRows2();
        x.identifier(1, 1, 1, 0);
        x.condition(0, false);
        c.refuses("not standing", x, 34, 46, 0, 1, 7);
        c.due("not written", x.value(1), 0);
        x.condition(0, true);
        x.condition(1, false);
        c.serves("standing but not quiet", x, Checks.q(46, 0, 1, 7), 110, 0, 1);
        c.due("written", x.value(1), 7);
    }

    private static void ownValue(Checks c) {
        c.sentence("The OWN value is these octets (without sign, but for 8 of them).");
        for (int length = 1; length <= 8; length++) {
            ServiceRows2 x = new ServiceRows2();
            x.identifier(1, length, 1, 0);
            int[] question = new int[3 + length];
            question[0] = 46;
            question[2] = 1;
            long want = 0;
            for (int i = 0; i < length; i++) {
                question[3 + i] = 0xF1 + i;
                want = want * 256 + 0xF1 + i;
            }
            c.put(x, question);
            c.due(length + " octets", x.value(1), want);
        }
        ServiceRows2 x = Checks.inSession(2);
        x.identifier(1, 1, 1, 0);
        c.put(x, 47, 0, 1, 3, 9);
        c.put(x, 46, 0, 1, 4);
        c.due("a CONTROL stays", x.value(1), 9);
        c.put(x, 47, 0, 1, 0);
        c.due("then the OWN value", x.value(1), 4);
    }

    private static void answer(Checks c) {
        c.sentence("110, itself");
        ServiceRows2 x = new ServiceRows2();
        x.identifier(0xFE01, 1, 1, 0);
        c.serves("both octets", x, Checks.q(46, 0xFE, 1, 7), 110, 0xFE, 1);
    }

    private static void orderOfChecks(Checks c) {
        c.sentence("The checks, in their order; the first that fails gives its code");
        ServiceRows2 x = new ServiceRows2();
        x.identifier(1, 2, 1, 1);
        x.identifier(2, 2, 2, 1);
        x.dynamic(3, 1, 2);
        x.condition(0, false);
        c.refuses("n before HERE", x, 19, 46, 0, 9);
        c.refuses("n before the LEVEL and standing", x, 19, 46, 0, 1);
        c.refuses("HERE before LENGTH", x, 49, 46, 0, 2, 1);
        c.refuses("HERE before the LEVEL and standing", x, 49, 46, 0, 2, 1, 1);
        c.refuses("PUT TOGETHER before LENGTH", x, 49, 46, 0, 3, 1);
        c.refuses("PUT TOGETHER before standing", x, 49, 46, 0, 3, 1, 1);
        c.refuses("LENGTH before the LEVEL", x, 19, 46, 0, 1, 1);
        c.refuses("the LEVEL before standing", x, 51, 46, 0, 1, 1, 1);
        x.rights(1);
        c.refuses("LENGTH before standing", x, 19, 46, 0, 1, 1, 1, 1);
        x.control(1, 1, 0);
        c.refuses("may be written before LENGTH", x, 49, 46, 0, 1, 1);
        c.refuses("may be written before standing", x, 49, 46, 0, 1, 1, 1);
        x.rights(0);
        c.refuses("may be written before the LEVEL", x, 49, 46, 0, 1, 1, 1);
    }
}
