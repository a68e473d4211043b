/** Promise 10: answer. */
public final class AnswerTest {
    private static final int[] OUTSIDE = {Integer.MIN_VALUE, -1, 5, 40, 41, 42, 60, Integer.MAX_VALUE};

    public static void main(String[] args) {
        Checks c = new Checks();
        octets(c);
        theLast(c);
        outside(c);
        longest(c);
        hadNone(c);
        c.end();
    }

    private static void octets(Checks c) {
        c.sentence("Octet i of the last ANSWER.");
        ServiceRows2 x = new ServiceRows2();
        x.identifier(0x8081, 2, 1, 0);
        x.control(0x8081, 0, 0xFF7F);
        c.put(x, 34, 0x80, 0x81);
        int[] want = {98, -128, -127, -1, 127};
        for (int twice = 0; twice < 2; twice++) {
            for (int i = 0; i < want.length; i++) {
                c.due("octet " + i, x.answer(i), want[i]);
            }
        }
    }

    private static void theLast(Checks c) {
        c.sentence("the last ANSWER");
        ServiceRows2 x = new ServiceRows2();
        c.put(x, 62, 0);
        x.ask((byte) 2);
        x.ask((byte) 16);
        c.reads("while a QUESTION is under way", x, 126, 0);
        x.tick(7);
        x.identifier(5, 1, 1, 0);
        x.identifier(5, 1, 1, 0);
        x.rights(9);
        c.reads("behind other calls", x, 126, 0);
        x.ask((byte) 2);
        c.reads("of that QUESTION", x, 80, 2);
        x.transfer(1, (byte) 1);
        c.reads("of a transfer", x, 127, 54, 127);
    }

    private static void outside(Checks c) {
        c.sentence("ArrayIndexOutOfBoundsException before and behind it");
        ServiceRows2 x = new ServiceRows2();
        x.identifier(1, 2, 1, 0);
        c.put(x, 34, 0, 1);
        c.due("the first octet", Checks.throwsAt(x, 0), 0);
        c.due("the last octet", Checks.throwsAt(x, 4), 0);
        for (int i : OUTSIDE) {
            c.due("octet " + i, Checks.throwsAt(x, i), 1);
        }
        c.put(x, 62, 0);
        for (int i = 2; i < 6; i++) {
            c.due("octet " + i + " of a shorter one", Checks.throwsAt(x, i), 1);
        }
        c.reads("it is as before", x, 126, 0);
    }

    private static void longest(Checks c) {
        c.sentence("before and behind it");
        ServiceRows2 x = new ServiceRows2();
        x.identifier(1, 8, 1, 0);
        x.control(1, 0, -1);
        c.due("octets", c.put(x, 34, 0, 1, 0, 1, 0, 1, 0, 1), 41);
        c.due("the last octet of the longest", x.answer(40), -1);
        c.due("behind it", Checks.throwsAt(x, 41), 1);
        c.due("before it", Checks.throwsAt(x, -1), 1);
    }

    private static void hadNone(Checks c) {
        c.sentence("(all, if the last QUESTION had none)");
        ServiceRows2 x = new ServiceRows2();
        c.due("no QUESTION at all", Checks.throwsAt(x, 0), 1);
        x.ask((byte) 2);
        c.due("none has come to its end", Checks.throwsAt(x, 0), 1);
        x.ask((byte) 62);
        x.ask((byte) 0);
        c.due("one that had one", Checks.throwsAt(x, 0), 0);
        c.put(x, 62, 128);
        for (int i = -1; i <= 42; i++) {
            c.due("octet " + i + " of none", Checks.throwsAt(x, i), 1);
        }
        c.put(x, 62, 0);
        c.put(x, true, 99);
        c.due("none to ALL", Checks.throwsAt(x, 0), 1);
    }
}
