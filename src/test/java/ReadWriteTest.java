/** Promise 9, SERVICES 34, 46 and 47: reading, writing, controls. */
public final class ReadWriteTest {
    public static void main(String[] args) {
        Checks c = new Checks();
        reading(c);
        readingLevels(c);
        writing(c);
        writingInOrder(c);
        controls(c);
        controlsInOrder(c);
        c.end();
    }

    private static void reading(Checks c) {
        ServiceRows2 x = new ServiceRows2();
        x.identifier(0x0102, 1, 1, 0);
        x.identifier(0xFFFE, 8, 1, 0);
        x.identifier(0x0300, 2, 2, 0);
        x.control(0x0102, 0, 0xABCDL);
        x.control(0xFFFE, 0, 0x8182838485868788L);
        c.serves("one", x, Checks.q(34, 1, 2), 98, 1, 2, 0xCD);
        c.serves("four, in the order told", x, Checks.q(34, 1, 2, 255, 254, 3, 0, 1, 2),
                98, 1, 2, 0xCD, 255, 254, 0x81, 0x82, 0x83, 0x84, 0x85, 0x86, 0x87, 0x88, 1, 2, 0xCD);
        c.serves("the longest", x, Checks.q(34, 255, 254, 255, 254, 255, 254, 255, 254), longest());
        c.refuses("none is here", x, 49, 34, 3, 0, 9, 9);
        for (int n = 0; n <= 10; n++) {
            int[] question = new int[n + 1];
            question[0] = 34;
            c.put(x, question);
            c.due("n = " + n, x.code(), n == 2 || n == 4 || n == 6 || n == 8 ? 49 : 19);
        }
    }

    private static int[] longest() {
        int[] answer = new int[41];
        answer[0] = 98;
        for (int i = 0; i < 4; i++) {
            answer[10 * i + 1] = 255;
            answer[10 * i + 2] = 254;
            for (int k = 1; k <= 8; k++) {
                answer[10 * i + 2 + k] = 0x80 + k;
            }
        }
        return answer;
    }

    private static void readingLevels(Checks c) {
        ServiceRows2 x = new ServiceRows2();
        x.identifier(1, 1, 1, 0);
        x.identifier(2, 1, 1, 2);
        x.identifier(3, 1, 2, 3);
        c.refuses("one of two", x, 51, 34, 0, 1, 0, 2);
        c.refuses("the other of two", x, 51, 34, 0, 2, 0, 1);
        c.serves("one that is not here has no say", x, Checks.q(34, 0, 1, 0, 3), 98, 0, 1, 0);
        c.refuses("only it", x, 49, 34, 0, 3);
        x.rights(2);
        c.serves("its LEVEL", x, Checks.q(34, 0, 2, 0, 1), 98, 0, 2, 0, 0, 1, 0);
        x.condition(0, false);
        c.serves("without standing", x, Checks.q(34, 0, 2), 98, 0, 2, 0);
    }

    private static void writing(Checks c) {
        for (int length = 1; length <= 8; length++) {
            ServiceRows2 x = new ServiceRows2();
            x.identifier(0x0201, length, 1, 0);
            int[] question = new int[3 + length];
            question[0] = 46;
            question[1] = 2;
            question[2] = 1;
            long want = 0;
            for (int i = 0; i < length; i++) {
                question[3 + i] = 0xF1 + i;
                want = want * 256 + 0xF1 + i;
            }
            c.serves("46", x, question, 110, 2, 1);
            c.due("without sign, but for 8 octets", x.value(0x0201), want);
        }
        ServiceRows2 x = Checks.inSession(2);
        x.identifier(1, 1, 1, 0);
        c.put(x, 47, 0, 1, 3, 9);
        c.serves("while it is controlled", x, Checks.q(46, 0, 1, 4), 110, 0, 1);
        c.due("the control is what shows", x.value(1), 9);
        c.put(x, 47, 0, 1, 0);
        c.due("then the own value", x.value(1), 4);
    }

    private static void writingInOrder(Checks c) {
        ServiceRows2 x = new ServiceRows2();
        x.identifier(1, 2, 1, 1);
        x.identifier(2, 1, 2, 0);
        x.dynamic(3, 1, 1);
        x.condition(0, false);
        c.refuses("n = 0", x, 19, 46);
        c.refuses("n = 1", x, 19, 46, 0);
        c.refuses("n = 2, before it is looked for", x, 19, 46, 0, 9);
        c.refuses("unknown", x, 49, 46, 0, 9, 1, 1);
        c.refuses("not here", x, 49, 46, 0, 2, 1);
        c.refuses("put together", x, 49, 46, 0, 3, 1);
        x.control(1, 1, 0);
        c.refuses("may not be written, before its length", x, 49, 46, 0, 1, 1);
        x.control(1, 1, 1);
        c.refuses("an octet less, before the LEVEL", x, 19, 46, 0, 1, 1);
        c.refuses("an octet more", x, 19, 46, 0, 1, 1, 1, 1);
        c.refuses("the LEVEL, before standing", x, 51, 46, 0, 1, 1, 1);
        x.rights(1);
        c.refuses("not standing", x, 34, 46, 0, 1, 1, 1);
        c.due("nothing was written", x.value(1), 0);
        x.condition(0, true);
        c.serves("written", x, Checks.q(46, 0, 1, 1, 1), 110, 0, 1);
        c.due("the value", x.value(1), 257);
    }

    private static void controls(Checks c) {
        ServiceRows2 x = Checks.inSession(2);
        x.identifier(0x0701, 8, 1, 0);
        x.identifier(2, 1, 2, 0);
        x.control(0x0701, 0, -5);
        c.serves("as it is", x, Checks.q(47, 7, 1, 2), 111, 7, 1, 2);
        x.control(0x0701, 0, 6);
        c.due("as it was", x.value(0x0701), -5);
        c.serves("octets", x, Checks.q(47, 7, 1, 3, 255, 2, 3, 4, 5, 6, 7, 8), 111, 7, 1, 3);
        c.due("octets", x.value(0x0701), 0xFF02030405060708L);
        c.serves("as it is, of a control", x, Checks.q(47, 7, 1, 2), 111, 7, 1, 2);
        c.due("the same", x.value(0x0701), 0xFF02030405060708L);
        c.serves("read", x, Checks.q(34, 7, 1), 98, 7, 1, 255, 2, 3, 4, 5, 6, 7, 8);
        c.serves("0", x, Checks.q(47, 7, 1, 1), 111, 7, 1, 1);
        c.due("0", x.value(0x0701), 0);
        x.condition(0, false);
        c.serves("returned, without standing", x, Checks.q(47, 7, 1, 0), 111, 7, 1, 0);
        c.due("its own", x.value(0x0701), 6);
        c.serves("returned twice", x, Checks.q(47, 7, 1, 0), 111, 7, 1, 0);
        c.serves("octets of another", x, Checks.q(47, 0, 2, 3, 200), 111, 0, 2, 3);
        c.due("without sign", x.value(2), 200);
        c.due("the first is left alone", x.value(0x0701), 6);
    }

    private static void controlsInOrder(Checks c) {
        ServiceRows2 x = new ServiceRows2();
        x.identifier(1, 2, 1, 1);
        x.identifier(2, 2, 3, 0);
        x.dynamic(3, 1, 1);
        c.refuses("SESSION 1, before the length", x, 127, 47);
        c.put(x, 16, 2);
        c.refuses("n = 0", x, 19, 47);
        c.refuses("n = 1", x, 19, 47, 0);
        c.refuses("n = 2, before it is looked for", x, 19, 47, 0, 9);
        c.refuses("unknown", x, 49, 47, 0, 9, 1);
        c.refuses("not here", x, 49, 47, 0, 2, 1);
        c.refuses("put together", x, 49, 47, 0, 3, 1);
        c.refuses("the LEVEL, before k", x, 51, 47, 0, 1, 4);
        x.rights(1);
        c.refuses("k = 4, before the octets", x, 49, 47, 0, 1, 4, 1);
        c.refuses("k = 255", x, 49, 47, 0, 1, 255);
        c.refuses("k = 131", x, 49, 47, 0, 1, 131, 1, 1);
        for (int k = 0; k <= 2; k++) {
            c.refuses("an octet more", x, 19, 47, 0, 1, k, 1);
            c.refuses("LENGTH octets more", x, 19, 47, 0, 1, k, 1, 1);
        }
        c.refuses("k = 3 without octets", x, 19, 47, 0, 1, 3);
        c.refuses("an octet less", x, 19, 47, 0, 1, 3, 1);
        c.refuses("an octet more", x, 19, 47, 0, 1, 3, 1, 1, 1);
        x.control(1, 0, 77);
        c.due("no control", x.value(1), 77);
        c.put(x, 16, 3);
        c.serves("in SESSION 3", x, Checks.q(47, 0, 2, 3, 1, 2), 111, 0, 2, 3);
    }
}
