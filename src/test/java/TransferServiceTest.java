/** Promise 9, SERVICES 52, 54 and 55: blocks with counters. */
public final class TransferServiceTest {
    public static void main(String[] args) {
        Checks c = new Checks();
        openSession(c);
        openLength(c);
        openOnce(c);
        openSize(c);
        open(c);
        blockSession(c);
        blockLength(c);
        blockOpen(c);
        blockBefore(c);
        blockNext(c);
        blockFirst(c);
        blockTooMuch(c);
        blockTaken(c);
        closeSession(c);
        closeLength(c);
        closeWhole(c);
        closed(c);
        sum(c);
        orderOfChecks(c);
        c.end();
    }

    /** In SESSION 3, with a TRANSFER of so many octets open. */
    private static ServiceRows2 opened(int size) {
        ServiceRows2 x = Checks.inSession(3);
        new Checks().put(x, 52, 0, size);
        return x;
    }

    private static void openSession(Checks c) {
        c.sentence("52: SESSION 3, or 127");
        for (int session = 1; session <= 3; session++) {
            c.codes("in SESSION " + session, Checks.inSession(session), session == 3 ? 0 : 127, 52, 0, 1);
        }
    }

    private static void openLength(Checks c) {
        c.sentence("n = 2, or 19");
        ServiceRows2 x = Checks.inSession(3);
        c.refuses("n = 0", x, 19, 52);
        c.refuses("n = 1", x, 19, 52, 1);
        c.refuses("n = 3", x, 19, 52, 0, 1, 0);
        c.serves("n = 2", x, Checks.q(52, 0, 1), 116, 8);
    }

    private static void openOnce(Checks c) {
        c.sentence("no TRANSFER is open, or 112");
        ServiceRows2 x = opened(2);
        c.refuses("at its beginning", x, 112, 52, 0, 1);
        x.transfer(1, (byte) 1);
        c.refuses("in its midst", x, 112, 52, 0, 1);
        x.transfer(2, (byte) 1);
        c.refuses("nothing is missing", x, 112, 52, 0, 1);
        c.serves("it is as before", x, Checks.q(55), 119, 0, 2);
        c.serves("none is open", x, Checks.q(52, 0, 1), 116, 8);
        c.put(x, 16, 3);
        c.serves("none after the SESSION's end", x, Checks.q(52, 0, 1), 116, 8);
    }

    private static void openSize(Checks c) {
        c.sentence("the size, the two octets, is 1 .. 200, or 49");
        int[] none = {0, 201, 255, 256, 257, 456, 0x8001, 65535};
        for (int size : none) {
            ServiceRows2 x = Checks.inSession(3);
            c.refuses("size " + size, x, 49, 52, size >> 8, size & 255);
            c.refuses("none is open", x, 36, 54, 1, 1);
        }
        int[] some = {1, 2, 127, 128, 199, 200};
        for (int size : some) {
            c.serves("size " + size, Checks.inSession(3), Checks.q(52, 0, size), 116, 8);
        }
    }

    private static void open(Checks c) {
        c.sentence("A TRANSFER is open. 116 8.");
        int[] sizes = {1, 2, 200};
        for (int size : sizes) {
            ServiceRows2 x = Checks.inSession(3);
            x.condition(0, false);
            c.serves("52", x, Checks.q(52, 0, size), 116, 8);
            for (int block = 1; block <= size; block++) {
                c.due("block " + block + " of " + size, x.transfer(block, (byte) 0), 1);
            }
            c.due("no more than " + size, x.transfer(size + 1, (byte) 0), -113);
        }
    }

    private static void blockSession(Checks c) {
        c.sentence("54: SESSION 3, or 127");
        for (int session = 1; session <= 3; session++) {
            c.codes("in SESSION " + session, Checks.inSession(session), session == 3 ? 36 : 127, 54, 1, 1);
        }
    }

    private static void blockLength(Checks c) {
        c.sentence("n is 2 .. 9, or 19");
        for (int n = 0; n <= 12; n++) {
            ServiceRows2 x = opened(200);
            c.codes("n = " + n, x, n >= 2 && n <= 9 ? 0 : 19, block(1, n));
            c.codes("n = " + n + " again", x, n >= 2 && n <= 9 ? 0 : 19, block(1, n));
        }
        ServiceRows2 x = opened(200);
        c.put(x, 54, 1, 1);
        c.refuses("the block before without octets", x, 19, 54, 1);
        c.refuses("the block before with nine", x, 19, block(1, 10));
        c.refuses("the most octets", x, 19, block(2, 59));
    }

    private static int[] block(int counter, int n) {
        int[] question = new int[n + 1];
        question[0] = 54;
        if (n > 0) {
            question[1] = counter;
        }
        return question;
    }

    private static void blockOpen(Checks c) {
        c.sentence("a TRANSFER is open, or 36");
        ServiceRows2 x = Checks.inSession(3);
        c.refuses("none yet", x, 36, 54, 1, 1);
        c.put(x, 52, 0, 1);
        c.serves("one is open", x, Checks.q(54, 1, 1), 118, 1);
        c.serves("nothing is missing, but it is open", x, Checks.q(54, 1, 1), 118, 1);
        c.put(x, 55);
        c.refuses("none any more", x, 36, 54, 1, 1);
        c.refuses("none any more", x, 36, 54, 2, 1);
    }

    private static void blockBefore(Checks c) {
        c.sentence("if c, the next octet, is that of the block before (of this TRANSFER), nothing is taken");
        ServiceRows2 x = opened(3);
        c.serves("the first", x, Checks.q(54, 1, 5, 6), 118, 1);
        c.serves("again", x, Checks.q(54, 1, 5, 6), 118, 1);
        c.serves("again, with more than is missing", x, Checks.q(54, 1, 9, 9, 9, 9, 9, 9, 9, 9), 118, 1);
        c.refuses("one is missing still", x, 36, 55);
        c.serves("the second", x, Checks.q(54, 2, 7), 118, 2);
        c.serves("again, with nothing missing", x, Checks.q(54, 2, 7), 118, 2);
        c.refuses("not the one before that", x, 115, 54, 1, 5, 6);
        c.serves("the sum", x, Checks.q(55), 119, 0, 18);
        c.put(x, 52, 0, 3);
        c.refuses("2 was of another TRANSFER", x, 115, 54, 2, 7);
        c.serves("the first of this one", x, Checks.q(54, 1, 1, 1, 1), 118, 1);
        c.put(x, 16, 3);
        c.put(x, 52, 0, 3);
        c.serves("the first of a third one is taken", x, Checks.q(54, 1, 1, 1, 2), 118, 1);
        c.serves("the sum", x, Checks.q(55), 119, 0, 4);
    }

    private static void blockNext(Checks c) {
        c.sentence("otherwise c is one more than that, modulo 256");
        ServiceRows2 x = opened(200);
        int[] counters = {1, 2, 3, 127, 128, 129, 199};
        int block = 0;
        for (int counter : counters) {
            while (block < counter) {
                block++;
                c.due("block " + block, x.transfer(block, (byte) 0), 1);
            }
            c.codes("two more than " + block, x, 115, 54, block + 2, 1);
            c.codes("0 behind " + block, x, 115, 54, 0, 1);
            if (block > 1) {
                c.codes("one less than " + block, x, 115, 54, block - 1, 1);
            }
        }
        c.serves("200, the highest that can come", x, Checks.q(54, 200, 1), 118, 200);
    }

    private static void blockFirst(Checks c) {
        c.sentence("(1 for the first one), or 115");
        for (int counter = 0; counter <= 255; counter++) {
            c.codes("counter " + counter, opened(9), counter == 1 ? 0 : 115, 54, counter, 1);
        }
    }

    private static void blockTooMuch(Checks c) {
        c.sentence("the octets behind it are not more than are missing, or 113");
        for (int size = 1; size <= 8; size++) {
            for (int octets = 1; octets <= 8; octets++) {
                c.codes(octets + " of " + size, opened(size), octets <= size ? 0 : 113, block(1, octets + 1));
            }
        }
        ServiceRows2 x = opened(12);
        c.put(x, 54, 1, 1, 1, 1, 1, 1, 1, 1, 1);
        c.refuses("five of four", x, 113, 54, 2, 1, 1, 1, 1, 1);
        c.serves("four of four", x, Checks.q(54, 2, 1, 1, 1, 1), 118, 2);
        c.refuses("one of none", x, 113, 54, 3, 1);
        c.serves("the last one is still the block before", x, Checks.q(54, 2, 1), 118, 2);
        c.serves("what was too much is not in the sum", x, Checks.q(55), 119, 0, 12);
    }

    private static void blockTaken(Checks c) {
        c.sentence("they are taken. 118 c.");
        ServiceRows2 x = opened(36);
        for (int octets = 1; octets <= 8; octets++) {
            int[] question = block(octets, octets + 1);
            for (int i = 0; i < octets; i++) {
                question[2 + i] = 255;
            }
            c.refuses("some are missing", x, 36, 55);
            c.serves(octets + " octets", x, question, 118, octets);
        }
        c.serves("36 * 255", x, Checks.q(55), 119, 9180 >> 8, 9180 & 255);
    }

    private static void closeSession(Checks c) {
        c.sentence("55: SESSION 3, or 127");
        for (int session = 1; session <= 3; session++) {
            c.codes("in SESSION " + session, Checks.inSession(session), session == 3 ? 36 : 127, 55);
        }
    }

    private static void closeLength(Checks c) {
        c.sentence("n = 0, or 19");
        ServiceRows2 x = opened(1);
        c.put(x, 54, 1, 7);
        c.refuses("n = 1", x, 19, 55, 0);
        c.refuses("n = 2", x, 19, 55, 0, 0);
        c.serves("n = 0", x, Checks.q(55), 119, 0, 7);
    }

    private static void closeWhole(Checks c) {
        c.sentence("a TRANSFER is open, and nothing is missing, or 36");
        ServiceRows2 x = Checks.inSession(3);
        c.refuses("none is open", x, 36, 55);
        c.put(x, 52, 0, 2);
        c.refuses("two are missing", x, 36, 55);
        c.put(x, 54, 1, 1);
        c.refuses("one is missing", x, 36, 55);
        c.refuses("it is still open", x, 112, 52, 0, 2);
        c.put(x, 54, 2, 1);
        c.serves("nothing is missing", x, Checks.q(55), 119, 0, 2);
    }

    private static void closed(Checks c) {
        c.sentence("None is open any more.");
        ServiceRows2 x = opened(1);
        c.put(x, 54, 1, 1);
        x.condition(0, false);
        c.serves("closed", x, Checks.q(55), 119, 0, 1);
        c.refuses("closed twice", x, 36, 55);
        c.refuses("no block", x, 36, 54, 1, 1);
        c.serves("another one", x, Checks.q(52, 0, 1), 116, 8);
    }

    private static void sum(Checks c) {
        c.sentence("119, the sum of its octets modulo 65536 (two octets)");
        ServiceRows2 x = opened(200);
        for (int block = 1; block <= 200; block++) {
            c.due("block " + block, x.transfer(block, (byte) -1), 1);
        }
        c.serves("the highest, 200 * 255", x, Checks.q(55), 119, 51000 >> 8, 51000 & 255);
        ServiceRows2 other = opened(2);
        c.put(other, 54, 1, 0, 0);
        c.serves("the lowest", other, Checks.q(55), 119, 0, 0);
        c.put(other, 52, 0, 2);
        c.put(other, 54, 1, 255, 1);
        c.serves("256", other, Checks.q(55), 119, 1, 0);
        c.put(other, 52, 0, 1);
        c.put(other, 54, 1, 3);
        c.serves("its octets alone", other, Checks.q(55), 119, 0, 3);
    }

    private static void orderOfChecks(Checks c) {
        c.sentence("The checks, in their order; the first that fails gives its code");
        ServiceRows2 x = Checks.inSession(2);
        c.refuses("52, SESSION before n", x, 127, 52);
        c.refuses("52, SESSION before the size", x, 127, 52, 0, 0);
        c.refuses("54, SESSION before n", x, 127, 54);
        c.refuses("54, SESSION before open", x, 127, 54, 1, 1);
        c.refuses("55, SESSION before n", x, 127, 55, 1);
        c.refuses("55, SESSION before open", x, 127, 55);
        c.put(x, 16, 3);
        c.refuses("52, n before the size", x, 19, 52, 0);
        c.refuses("54, n before open", x, 19, 54, 1);
        c.refuses("55, n before open", x, 19, 55, 0);
        c.put(x, 52, 0, 3);
        c.refuses("52, n before open", x, 19, 52, 0);
        c.refuses("52, open before the size", x, 112, 52, 0, 0);
        c.refuses("54, n before c", x, 19, 54, 9);
        c.refuses("54, n before the octets", x, 19, block(1, 10));
        c.refuses("54, c before the octets", x, 115, 54, 2, 1, 1, 1, 1);
        c.refuses("55, n before missing", x, 19, 55, 0);
    }
}
