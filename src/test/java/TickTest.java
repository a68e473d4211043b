/** Promise 13: tick. */
public final class TickTest {
    private static final long LATEST = 1L << 60;

    public static void main(String[] args) {
        Checks c = new Checks();
        notSessionOne(c);
        behind(c);
        cameToItsEnd(c);
        ends(c);
        oneStepLess(c);
        startedOnes(c);
        lessThanOneBefore(c);
        above(c);
        refusedTime(c);
        c.end();
    }

    private static void notSessionOne(Checks c) {
        c.sentence("1 if the present SESSION is not 1");
        for (int session = 1; session <= 3; session++) {
            ServiceRows2 x = Checks.inSession(session);
            c.due("SESSION " + session, x.tick(5000), session == 1 ? 0 : 1);
            c.due("it is 1 then", x.tick(20000), 0);
        }
        c.due("without a QUESTION", new ServiceRows2().tick(5000), 0);
    }

    private static void behind(Checks c) {
        c.sentence("and that is 5000 or more behind the time at which the last QUESTION came to its end");
        long[] times = {0, 1, 100, LATEST - 5000};
        long[] later = {0, 1, 4999, 5000};
        for (long time : times) {
            for (long more : later) {
                ServiceRows2 x = new ServiceRows2();
                x.tick(time);
                c.put(x, 16, 2);
                c.due(more + " behind " + time, x.tick(time + more), more >= 5000 ? 1 : 0);
            }
        }
        c.due("5001 behind", Checks.inSession(3).tick(5001), 1);
        c.due("much later", Checks.inSession(3).tick(LATEST), 1);
        ServiceRows2 x = Checks.inSession(2);
        c.due("2500 behind", x.tick(2500), 0);
        c.due("4999 behind, in two", x.tick(4999), 0);
        c.due("5000 behind, in three", x.tick(5000), 1);
    }

    private static void cameToItsEnd(Checks c) {
        c.sentence("the last QUESTION came to its end");
        ServiceRows2 x = Checks.inSession(2);
        x.tick(1000);
        c.put(x, 62, 0);
        c.due("an answered one", x.tick(5999), 0);
        c.put(x, 62, 128);
        c.due("one without an ANSWER", x.tick(10998), 0);
        c.put(x, 99);
        c.due("one with a failed check", x.tick(15997), 0);
        x.ask((byte) 0);
        c.due("one without octets", x.tick(20996), 0);
        c.put(x, true, 99);
        c.due("one to ALL", x.tick(25995), 0);
        c.put(x, 62, 0);
        x.tick(28000);
        x.ask((byte) 2);
        x.ask((byte) 62);
        c.due("not one under way", x.tick(30994), 0);
        c.due("not one under way", x.tick(30995), 1);
        c.due("that one's end", x.ask((byte) 0), 2);
        x.ask((byte) 2);
        x.ask((byte) 16);
        x.tick(40000);
        x.ask((byte) 2);
        c.due("its end, not its beginning", x.tick(44999), 0);
        c.due("5000 behind its end", x.tick(45000), 1);
    }

    private static void ends(Checks c) {
        c.sentence("it ENDS, 1 is the present one; 0 otherwise");
        ServiceRows2 x = Checks.inSession(3);
        x.identifier(1, 1, 1, 0);
        x.identifier(2, 1, 2, 0);
        x.control(1, 0, 4);
        x.rights(2);
        c.put(x, 47, 0, 1, 1);
        c.put(x, 52, 0, 1);
        c.due("not yet", x.tick(4999), 0);
        c.due("still controlled", x.value(1), 0);
        c.due("still LEVEL 2", x.rights(2), 2);
        c.due("it ENDS", x.tick(5000), 1);
        c.due("no CONTROL", x.value(1), 4);
        c.due("LEVEL 0", x.rights(0), 0);
        c.refuses("SESSION 1", x, 127, 55);
        c.refuses("SESSION 1", x, 49, 34, 0, 2);
        c.put(x, 16, 3);
        c.refuses("no TRANSFER", x, 36, 54, 1, 1);
    }

    private static void oneStepLess(Checks c) {
        c.sentence("Each STARTED routine that has some has one STEP less LEFT.");
        ServiceRows2 x = Checks.inSession(2);
        for (int i = 0; i < 10; i++) {
            x.routine(i, i);
            c.put(x, 49, 1, 0, i);
        }
        for (int ticks = 1; ticks <= 5; ticks++) {
            x.tick(0);
            for (int i = 0; i < 10; i++) {
                c.codes(i + " STEPS after " + ticks, x, i > ticks ? 16 : 0, 49, 3, 0, i);
            }
        }
        ServiceRows2 last = Checks.inSession(2);
        last.routine(1, 100);
        c.put(last, 49, 1, 0, 1);
        for (int i = 0; i < 99; i++) {
            last.tick(0);
        }
        c.refuses("one of 100 LEFT", last, 16, 49, 3, 0, 1);
        last.tick(0);
        c.serves("none of 100 LEFT", last, Checks.q(49, 3, 0, 1), 113, 3, 0, 1, 0);
        last.tick(0);
        c.serves("not less than none", last, Checks.q(49, 3, 0, 1), 113, 3, 0, 1, 0);
        ServiceRows2 ended = Checks.inSession(2);
        ended.routine(1, 1);
        c.put(ended, 49, 1, 0, 1);
        c.due("the SESSION ENDS", ended.tick(5000), 1);
        c.put(ended, 16, 2);
        c.serves("with one STEP less", ended, Checks.q(49, 3, 0, 1), 113, 3, 0, 1, 0);
        c.put(ended, 49, 1, 0, 1);
        c.put(ended, 16, 1);
        ended.tick(5001);
        c.put(ended, 16, 2);
        c.serves("in SESSION 1, too", ended, Checks.q(49, 3, 0, 1), 113, 3, 0, 1, 0);
    }

    private static void startedOnes(Checks c) {
        c.sentence("Each STARTED routine");
        ServiceRows2 x = Checks.inSession(2);
        x.routine(1, 1);
        x.tick(0);
        c.refuses("one that was not STARTED stays so", x, 36, 49, 3, 0, 1);
        c.serves("and has all when it is STARTED", x, Checks.q(49, 1, 0, 1), 113, 1, 0, 1, 1);
    }

    private static void lessThanOneBefore(Checks c) {
        c.sentence("-2 the time is less than one before");
        ServiceRows2 x = new ServiceRows2();
        c.due("below the time at first", x.tick(-1), -2);
        c.due("the lowest", x.tick(Long.MIN_VALUE), -2);
        c.due("the time at first", x.tick(0), 0);
        c.due("10", x.tick(10), 0);
        c.due("9", x.tick(9), -2);
        c.due("0", x.tick(0), -2);
        c.due("10 again", x.tick(10), 0);
        c.due("11", x.tick(11), 0);
        c.due("10", x.tick(10), -2);
        c.due("2^60", x.tick(LATEST), 0);
        c.due("one less", x.tick(LATEST - 1), -2);
    }

    private static void above(Checks c) {
        c.sentence("or above 2^60");
        ServiceRows2 x = new ServiceRows2();
        c.due("one above", x.tick(LATEST + 1), -2);
        c.due("the highest", x.tick(Long.MAX_VALUE), -2);
        c.due("2^60", x.tick(LATEST), 0);
        c.due("2^60 again", x.tick(LATEST), 0);
        c.due("one above", x.tick(LATEST + 1), -2);
        c.put(x, 16, 2);
        c.due("no SESSION can come to its end any more", x.tick(LATEST), 0);
    }

    private static void refusedTime(Checks c) {
        c.sentence("REFUSALS change nothing");
        long[] refused = {-1, 99, LATEST + 1, Long.MIN_VALUE, Long.MAX_VALUE};
        for (long t : refused) {
            ServiceRows2 x = new ServiceRows2();
            x.tick(100);
            c.put(x, 16, 2);
            x.routine(1, 1);
            c.put(x, 49, 1, 0, 1);
            c.due("time " + t, x.tick(t), -2);
            c.refuses("no STEP less", x, 16, 49, 3, 0, 1);
            c.due("the time is as before", x.tick(99), -2);
            c.due("the time is as before", x.tick(100), 0);
            c.due("4999 behind", x.tick(5099), 0);
            c.due("5000 behind", x.tick(5100), 1);
        }
    }
}
