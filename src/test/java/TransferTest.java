/** Promise 12: transfer. */
public final class TransferTest {
    public static void main(String[] args) {
        Checks c = new Checks();
        asAQuestion(c);
        lowestBits(c);
        notToAll(c);
        answerAndCode(c);
        itsTime(c);
        taken(c);
        blockBefore(c);
        minusTheCode(c);
        notTouched(c);
        c.end();
    }

    private static ServiceRows2 opened(int size) {
        ServiceRows2 x = Checks.inSession(3);
        new Checks().put(x, 52, 0, size);
        return x;
    }

    private static void asAQuestion(Checks c) {
        c.sentence("As a QUESTION 54 c b");
        ServiceRows2 x = opened(4);
        c.due("by a call", x.transfer(1, (byte) 200), 1);
        c.serves("by a QUESTION", x, Checks.q(54, 2, 100), 118, 2);
        c.due("by a call", x.transfer(3, (byte) -1), 1);
        c.serves("the block before, by a QUESTION", x, Checks.q(54, 3, 1), 118, 3);
        c.due("by a call", x.transfer(4, (byte) 0), 1);
        c.serves("200 + 100 + 255 + 0", x, Checks.q(55), 119, 2, 43);
    }

    private static void lowestBits(Checks c) {
        c.sentence("(c by its lowest 8 bits)");
        ServiceRows2 x = opened(200);
        c.due("256 is 0", x.transfer(256, (byte) 1), -115);
        c.due("257 is 1", x.transfer(257, (byte) 1), 1);
        c.due("-255 is 1", x.transfer(-255, (byte) 1), 2);
        c.due("-254 is 2", x.transfer(-254, (byte) 1), 1);
        c.due("0x7FFFFF03 is 3", x.transfer(0x7FFFFF03, (byte) 1), 1);
        c.due("the lowest is 0", x.transfer(Integer.MIN_VALUE, (byte) 1), -115);
        c.due("the highest is 255", x.transfer(Integer.MAX_VALUE, (byte) 1), -115);
        for (int block = 4; block <= 200; block++) {
            c.due("block " + block, x.transfer(block + 256 * block, (byte) 0), 1);
        }
        c.reads("a counter above 127", x, 118, 200);
    }

    private static void notToAll(Checks c) {
        c.sentence("not to ALL, that came");
        ServiceRows2 x = new ServiceRows2();
        c.put(x, true, 62, 0);
        c.due("127", x.transfer(1, (byte) 1), -127);
        c.reads("it is told", x, 127, 54, 127);
        x.ask((byte) 130);
        c.due("127, within one to ALL", x.transfer(1, (byte) 1), -127);
        c.reads("it is told", x, 127, 54, 127);
    }

    private static void answerAndCode(Checks c) {
        c.sentence("(its ANSWER, code()");
        ServiceRows2 x = Checks.inSession(3);
        x.transfer(1, (byte) 1);
        c.due("code", x.code(), 36);
        c.reads("ANSWER", x, 127, 54, 36);
        c.put(x, 52, 0, 1);
        x.transfer(1, (byte) 1);
        c.due("code", x.code(), 0);
        c.reads("ANSWER", x, 118, 1);
        c.put(x, 62, 128);
        x.transfer(257, (byte) 1);
        c.due("code", x.code(), 0);
        c.reads("ANSWER", x, 118, 1);
    }

    private static void itsTime(Checks c) {
        c.sentence("and time, too)");
        ServiceRows2 x = Checks.inSession(2);
        c.due("not yet", x.tick(4000), 0);
        c.due("refused", x.transfer(1, (byte) 1), -127);
        c.due("4999 behind it", x.tick(8999), 0);
        c.due("5000 behind it", x.tick(9000), 1);
        ServiceRows2 other = opened(2);
        other.tick(4000);
        c.due("taken", other.transfer(1, (byte) 1), 1);
        c.due("4999 behind it", other.tick(8999), 0);
        c.due("the block before", other.transfer(1, (byte) 1), 2);
        c.due("4999 behind it", other.tick(13998), 0);
        c.due("5000 behind it", other.tick(13999), 1);
    }

    private static void taken(Checks c) {
        c.sentence("1 taken");
        ServiceRows2 x = opened(2);
        c.due("the first", x.transfer(1, (byte) 1), 1);
        c.due("the last", x.transfer(2, (byte) 1), 1);
        c.serves("both were taken", x, Checks.q(55), 119, 0, 2);
    }

    private static void blockBefore(Checks c) {
        c.sentence("2 it was the block before");
        ServiceRows2 x = opened(2);
        x.transfer(1, (byte) 1);
        c.due("some are missing", x.transfer(1, (byte) 1), 2);
        c.due("and again", x.transfer(1, (byte) 5), 2);
        x.transfer(2, (byte) 1);
        c.due("nothing is missing", x.transfer(2, (byte) 1), 2);
        c.serves("nothing was taken", x, Checks.q(55), 119, 0, 2);
    }

    private static void minusTheCode(Checks c) {
        c.sentence("otherwise minus the code");
        c.due("SESSION 1", new ServiceRows2().transfer(1, (byte) 1), -127);
        c.due("SESSION 2", Checks.inSession(2).transfer(1, (byte) 1), -127);
        ServiceRows2 x = Checks.inSession(3);
        c.due("none is open", x.transfer(1, (byte) 1), -36);
        c.put(x, 52, 0, 1);
        c.due("not the first", x.transfer(0, (byte) 1), -115);
        c.due("not the first", x.transfer(2, (byte) 1), -115);
        c.due("taken", x.transfer(1, (byte) 1), 1);
        c.due("too much", x.transfer(2, (byte) 1), -113);
        c.put(x, 55);
        c.due("none is open any more", x.transfer(1, (byte) 1), -36);
    }

    private static void notTouched(Checks c) {
        c.sentence("A QUESTION under way is not touched.");
        ServiceRows2 x = opened(2);
        x.ask((byte) 131);
        x.ask((byte) 54);
        x.ask((byte) 1);
        c.due("before its last octet", x.transfer(1, (byte) 5), 1);
        c.due("its end", x.ask((byte) 9), 2);
        c.reads("it was the block before", x, 118, 1);
        x.ask((byte) 129);
        c.due("behind its first octet", x.transfer(2, (byte) 6), 1);
        c.due("its end", x.ask((byte) 55), 3);
        c.reads("the sum", x, 119, 0, 11);
        x.ask((byte) 129);
        c.due("behind its first octet", x.transfer(2, (byte) 6), -36);
        c.due("it is to ALL still", x.ask((byte) 99), 0);
        c.due("its code", x.code(), 17);
    }
}
