/** Promise 9, SERVICES 52, 54 and 55: blocks with counters. */
public final class TransferServiceTest {
    public static void main(String[] args) {
        Checks c = new Checks();
        opening(c);
        blocks(c);
        closing(c);
        longest(c);
        c.end();
    }

    private static void opening(Checks c) {
        for (int session = 1; session <= 2; session++) {
            ServiceRows2 x = Checks.inSession(session);
            c.refuses("52, before the length", x, 127, 52);
            c.refuses("54, before the length", x, 127, 54);
            c.refuses("55, before the length", x, 127, 55, 1);
        }
        ServiceRows2 x = Checks.inSession(3);
        c.refuses("n = 0", x, 19, 52);
        c.refuses("n = 1", x, 19, 52, 1);
        c.refuses("n = 3", x, 19, 52, 0, 1, 0);
        c.refuses("size 0", x, 49, 52, 0, 0);
        c.refuses("size 201", x, 49, 52, 0, 201);
        c.refuses("size 256", x, 49, 52, 1, 0);
        c.refuses("size 65535", x, 49, 52, 255, 255);
        x.condition(0, false);
        c.serves("size 200, without standing", x, Checks.q(52, 0, 200), 116, 8);
        c.refuses("open, before the size", x, 112, 52, 0, 0);
        c.refuses("the length, before it is open", x, 19, 52, 0);
        c.put(x, 16, 2);
        x.condition(0, true);
        c.put(x, 16, 3);
        c.serves("size 1, after the SESSION's end", x, Checks.q(52, 0, 1), 116, 8);
    }

    private static void blocks(Checks c) {
        ServiceRows2 x = Checks.inSession(3);
        c.refuses("n = 1, before it is open", x, 19, 54, 1);
        c.refuses("n = 10, before it is open", x, 19, 54, 1, 1, 1, 1, 1, 1, 1, 1, 1, 1);
        c.refuses("none open", x, 36, 54, 1, 1);
        c.put(x, 52, 0, 12);
        c.refuses("n = 0", x, 19, 54);
        c.refuses("the first is not 0", x, 115, 54, 0, 1);
        c.refuses("the first is not 2", x, 115, 54, 2, 1);
        c.refuses("the first is not 255", x, 115, 54, 255, 1);
        c.serves("eight octets", x, Checks.q(54, 1, 255, 255, 255, 255, 255, 255, 255, 255), 118, 1);
        c.refuses("five of four", x, 113, 54, 2, 1, 1, 1, 1, 1);
        c.serves("the block before, however long", x, Checks.q(54, 1, 9, 9, 9, 9, 9, 9, 9, 9), 118, 1);
        c.refuses("not 0", x, 115, 54, 0, 1);
        c.refuses("the counter before the octets", x, 115, 54, 3, 1, 1, 1, 1, 1);
        c.serves("the last four", x, Checks.q(54, 2, 1, 2, 3, 4), 118, 2);
        c.refuses("not the one before that", x, 115, 54, 1, 1);
        c.refuses("nothing is missing", x, 113, 54, 3, 1);
        c.serves("the last one again", x, Checks.q(54, 2, 1), 118, 2);
        c.serves("the sum", x, Checks.q(55), 119, 8, 2);
        c.put(x, 52, 0, 1);
        c.refuses("a block of the one before", x, 115, 54, 2, 1);
        c.refuses("the next of the one before", x, 115, 54, 3, 1);
        c.serves("the first again", x, Checks.q(54, 1, 7), 118, 1);
        c.serves("a sum of its own", x, Checks.q(55), 119, 0, 7);
    }

    private static void closing(Checks c) {
        ServiceRows2 x = Checks.inSession(3);
        c.refuses("none open", x, 36, 55);
        c.refuses("the length, before it is open", x, 19, 55, 0);
        c.put(x, 52, 0, 2);
        c.refuses("two are missing", x, 36, 55);
        c.put(x, 54, 1, 1);
        c.refuses("one is missing", x, 36, 55);
        c.refuses("it is still open", x, 112, 52, 0, 2);
        c.put(x, 54, 2, 1);
        x.condition(0, false);
        c.serves("closed, without standing", x, Checks.q(55), 119, 0, 2);
        c.refuses("twice", x, 36, 55);
        c.refuses("no block any more", x, 36, 54, 3, 1);
        c.refuses("nor the last one", x, 36, 54, 2, 1);
    }

    private static void longest(Checks c) {
        ServiceRows2 x = Checks.inSession(3);
        c.put(x, 52, 0, 200);
        for (int block = 1; block <= 200; block++) {
            c.due("block " + block, x.transfer(block, (byte) -1), 1);
        }
        c.due("no more", x.transfer(201, (byte) 1), -113);
        c.serves("the sum of the most octets", x, Checks.q(55), 119, 199, 56);
    }
}
