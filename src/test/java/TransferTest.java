/** Promise 12: transfer. */
public final class TransferTest {
    public static void main(String[] args) {
        Checks c = new Checks();
        answers(c);
        counters(c);
        leavesTheQuestionUnderWay(c);
        countsForTheTime(c);
        c.end();
    }

    private static void answers(Checks c) {
        ServiceRows2 x = new ServiceRows2();
        c.due("SESSION 1", x.transfer(1, (byte) 1), -127);
        c.reads("told, as it is not to all", x, 127, 54, 127);
        c.put(x, 16, 3);
        c.due("none open", x.transfer(1, (byte) 1), -36);
        c.due("its code", x.code(), 36);
        c.reads("its answer", x, 127, 54, 36);
        c.put(x, 52, 0, 2);
        c.due("wrong block", x.transfer(0, (byte) 1), -115);
        c.due("taken", x.transfer(1, (byte) 200), 1);
        c.reads("its answer", x, 118, 1);
        c.due("its code", x.code(), 0);
        c.due("the block before", x.transfer(1, (byte) 3), 2);
        c.reads("its answer", x, 118, 1);
        c.due("taken", x.transfer(2, (byte) -1), 1);
        c.due("the block before", x.transfer(2, (byte) -1), 2);
        c.due("too much", x.transfer(3, (byte) 1), -113);
        c.serves("the sum", x, Checks.q(55), 119, 1, 199);
        c.due("none open", x.transfer(2, (byte) 1), -36);
    }

    private static void counters(Checks c) {
        ServiceRows2 x = Checks.inSession(3);
        c.put(x, 52, 0, 200);
        c.due("256", x.transfer(256, (byte) 1), -115);
        c.due("257 is 1", x.transfer(257, (byte) 1), 1);
        c.due("-255 is 1", x.transfer(-255, (byte) 1), 2);
        c.due("-254 is 2", x.transfer(-254, (byte) 1), 1);
        c.due("lowest is 0", x.transfer(Integer.MIN_VALUE, (byte) 1), -115);
        c.due("highest is 255", x.transfer(Integer.MAX_VALUE, (byte) 1), -115);
        for (int block = 3; block <= 200; block++) {
            c.due("block " + block, x.transfer(block, (byte) 0), 1);
        }
        c.reads("a counter above 127", x, 118, 200);
        c.serves("the sum", x, Checks.q(55), 119, 0, 2);
    }

    private static void leavesTheQuestionUnderWay(Checks c) {
        ServiceRows2 x = Checks.inSession(3);
        c.put(x, 52, 0, 2);
        x.ask((byte) 131);
        x.ask((byte) 54);
        x.ask((byte) 1);
        c.due("in between", x.transfer(1, (byte) 5), 1);
        c.reads("its answer", x, 118, 1);
        c.due("the end of the question", x.ask((byte) 9), 2);
        c.reads("it was the block before", x, 118, 1);
        x.ask((byte) 129);
        c.due("in between", x.transfer(2, (byte) 6), 1);
        c.due("the end of a question to all", x.ask((byte) 55), 3);
        c.reads("the sum", x, 119, 0, 11);
        x.ask((byte) 0x81);
        c.due("in between", x.transfer(2, (byte) 6), -36);
        c.due("still to all", x.ask((byte) 99), 0);
        c.due("its code", x.code(), 17);
    }

    private static void countsForTheTime(Checks c) {
        ServiceRows2 x = Checks.inSession(2);
        c.due("not yet", x.tick(4000), 0);
        c.due("refused", x.transfer(1, (byte) 1), -127);
        c.due("it came at 4000", x.tick(8999), 0);
        c.due("5000 behind", x.tick(9000), 1);
    }
}
