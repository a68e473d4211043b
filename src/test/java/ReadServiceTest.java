/** Promise 9, SERVICE 34: reading. */
public final class ReadServiceTest {
    public static void main(String[] args) {
        Checks c = new Checks();
        length(c);
        higherFirst(c);
        isHere(c);
        someIsHere(c);
        level(c);
        levelOfThoseHere(c);
        asOftenAsTold(c);
        octets(c);
        orderOfChecks(c);
        c.end();
    }

    private static void length(Checks c) {
        c.sentence("34: n is 2, 4, 6 or 8, or 19");
        ServiceRows2 x = new ServiceRows2();
        x.identifier(0, 1, 1, 0);
        for (int n = 0; n <= 12; n++) {
            int[] question = new int[n + 1];
            question[0] = 34;
            boolean fits = n == 2 || n == 4 || n == 6 || n == 8;
            c.due("n = " + n, c.put(x, question), fits ? 1 + n / 2 * 3 : 3);
            c.due("n = " + n, x.code(), fits ? 0 : 19);
        }
        c.codes("n = 59", x, 19, longQuestion(59));
    }

    private static int[] longQuestion(int n) {
        int[] question = new int[n + 1];
        question[0] = 34;
        return question;
    }

    private static void higherFirst(Checks c) {
        c.sentence("(two octets each, the higher one first)");
        ServiceRows2 x = new ServiceRows2();
        x.identifier(0x0102, 1, 1, 0);
        x.identifier(0xFFFE, 1, 1, 0);
        x.control(0x0102, 0, 5);
        x.control(0xFFFE, 0, 6);
        c.serves("258", x, Checks.q(34, 1, 2), 98, 1, 2, 5);
        c.refuses("513 is another one", x, 49, 34, 2, 1);
        c.serves("65534", x, Checks.q(34, 255, 254), 98, 255, 254, 6);
    }

    private static void isHere(Checks c) {
        c.sentence("One is HERE if its SESSION is at most the present one.");
        for (int present = 1; present <= 3; present++) {
            ServiceRows2 x = Checks.inSession(present);
            for (int session = 1; session <= 3; session++) {
                x.identifier(session, 1, session, 0);
                c.codes("one of " + session + " in " + present, x, session <= present ? 0 : 49, 34, 0, session);
            }
        }
    }

    private static void someIsHere(Checks c) {
        c.sentence("some is HERE, or 49");
        ServiceRows2 x = new ServiceRows2();
        x.identifier(1, 1, 1, 0);
        x.identifier(2, 1, 2, 0);
        c.refuses("unknown", x, 49, 34, 0, 9);
        c.refuses("not here", x, 49, 34, 0, 2);
        c.refuses("none of four", x, 49, 34, 0, 2, 0, 9, 0, 2, 255, 255);
        c.serves("the first of two", x, Checks.q(34, 0, 1, 0, 2), 98, 0, 1, 0);
        c.serves("the second of two", x, Checks.q(34, 0, 9, 0, 1), 98, 0, 1, 0);
        c.serves("the last of four", x, Checks.q(34, 0, 9, 0, 2, 0, 9, 0, 1), 98, 0, 1, 0);
    }

    private static void level(Checks c) {
        c.sentence("none of these that are HERE has a LEVEL above the present one, or 51");
        ServiceRows2 x = new ServiceRows2();
        for (int needed = 0; needed <= 3; needed++) {
            x.identifier(needed, 1, 1, needed);
        }
        for (int present = 0; present <= 2; present++) {
            x.rights(present);
            c.codes("just the present one", x, 0, 34, 0, present);
            c.codes("one above", x, 51, 34, 0, present + 1);
            c.codes("the first of four", x, 51, 34, 0, present + 1, 0, 0, 0, 0, 0, 0);
            c.codes("the last of four", x, 51, 34, 0, 0, 0, 0, 0, 0, 0, present + 1);
        }
        x.rights(3);
        c.serves("all of them", x, Checks.q(34, 0, 3, 0, 2, 0, 1, 0, 0), 98, 0, 3, 0, 0, 2, 0, 0, 1, 0, 0, 0, 0);
    }

    private static void levelOfThoseHere(Checks c) {
        c.sentence("none of these that are HERE");
        ServiceRows2 x = new ServiceRows2();
        x.identifier(1, 1, 1, 0);
        x.identifier(3, 1, 2, 3);
        c.serves("one that is not here has no say", x, Checks.q(34, 0, 1, 0, 3), 98, 0, 1, 0);
        c.refuses("alone it is not here", x, 49, 34, 0, 3);
        c.put(x, 16, 2);
        c.refuses("here it has", x, 51, 34, 0, 1, 0, 3);
    }

    private static void asOftenAsTold(Checks c) {
        c.sentence("98, and for each that is HERE, as often as it is told: itself, its octets");
        ServiceRows2 x = new ServiceRows2();
        x.identifier(1, 8, 1, 0);
        x.identifier(2, 1, 1, 0);
        x.identifier(3, 2, 2, 0);
        x.control(1, 0, 0x8182838485868788L);
        x.control(2, 0, 0xAB);
        c.serves("in the order told", x, Checks.q(34, 0, 2, 0, 1, 0, 3, 0, 2),
                98, 0, 2, 0xAB, 0, 1, 0x81, 0x82, 0x83, 0x84, 0x85, 0x86, 0x87, 0x88, 0, 2, 0xAB);
        int[] longest = new int[41];
        longest[0] = 98;
        for (int i = 0; i < 4; i++) {
            longest[10 * i + 2] = 1;
            for (int k = 1; k <= 8; k++) {
                longest[10 * i + 2 + k] = 0x80 + k;
            }
        }
        c.serves("the longest ANSWER", x, Checks.q(34, 0, 1, 0, 1, 0, 1, 0, 1), longest);
    }

    private static void octets(Checks c) {
        c.sentence("its octets are the lowest LENGTH ones, the highest first");
        for (int length = 1; length <= 8; length++) {
            ServiceRows2 x = new ServiceRows2();
            x.identifier(1, length, 1, 0);
            x.control(1, 0, 0x0102030405060708L);
            c.due("their number", c.put(x, 34, 0, 1), 3 + length);
            for (int i = 0; i < length; i++) {
                c.due("octet " + i + " of " + length, x.answer(3 + i), 9 - length + i);
            }
        }
    }

    private static void orderOfChecks(Checks c) {
        c.sentence("The checks, in their order; the first that fails gives its code");
        ServiceRows2 x = new ServiceRows2();
        x.identifier(1, 1, 1, 1);
        x.identifier(2, 1, 2, 1);
        c.refuses("length before HERE", x, 19, 34, 0, 9, 0);
        c.refuses("length before the LEVEL", x, 19, 34, 0, 1, 0);
        c.refuses("ten octets before HERE", x, 19, 34, 0, 9, 0, 9, 0, 9, 0, 9, 0, 9);
        c.refuses("HERE before the LEVEL", x, 49, 34, 0, 2);
        x.rights(1);
        x.condition(0, false);
        c.serves("standing is not asked for", x, Checks.q(34, 0, 1), 98, 0, 1, 0);
    }
}
