/** Promise 13: tick. */
public final class TickTest {
    private static final long LATEST = 1L << 60;

    public static void main(String[] args) {
        Checks c = new Checks();
        ranges(c);
        sessionTime(c);
        whatCounts(c);
        whatEnds(c);
        steps(c);
        c.end();
    }

    private static void ranges(Checks c) {
        ServiceRows2 x = new ServiceRows2();
        c.due("below 0", x.tick(-1), -2);
        c.due("lowest", x.tick(Long.MIN_VALUE), -2);
        c.due("highest", x.tick(Long.MAX_VALUE), -2);
        c.due("above 2^60", x.tick(LATEST + 1), -2);
        c.due("0", x.tick(0), 0);
        c.due("10", x.tick(10), 0);
        c.due("9", x.tick(9), -2);
        c.due("10 again", x.tick(10), 0);
        c.due("2^60", x.tick(LATEST), 0);
        c.due("2^60 again", x.tick(LATEST), 0);
        c.due("one less", x.tick(LATEST - 1), -2);
        ServiceRows2 late = Checks.inSession(2);
        c.due("a refused time ends nothing", late.tick(LATEST + 1), -2);
        c.due("nor moves the time", late.tick(4999), 0);
        c.due("2^60 ends it", late.tick(LATEST), 1);
        c.put(late, 16, 2);
        c.due("the same time", late.tick(LATEST), 0);
    }

    private static void sessionTime(Checks c) {
        for (int session = 1; session <= 3; session++) {
            ServiceRows2 x = new ServiceRows2();
            c.due("a beginning", x.tick(100), 0);
            c.put(x, 16, session);
            c.due("4999 behind", x.tick(5099), 0);
            c.due("5000 behind", x.tick(5100), session == 1 ? 0 : 1);
            c.due("SESSION 1 has no end", x.tick(90000), 0);
            c.refuses("SESSION 1", x, 127, 49, 1, 0, 0);
        }
    }

    private static void whatCounts(Checks c) {
        ServiceRows2 x = Checks.inSession(2);
        x.tick(1000);
        c.put(x, 62, 0);
        c.due("an answered one", x.tick(5999), 0);
        c.put(x, 62, 128);
        c.due("one without answer", x.tick(10998), 0);
        c.put(x, 99);
        c.due("a refused one", x.tick(15997), 0);
        x.ask((byte) 0);
        c.due("one without octets", x.tick(20996), 0);
        x.ask((byte) 2);
        x.ask((byte) 62);
        c.due("not one under way", x.tick(25996), 1);
        c.due("the end of that one", x.ask((byte) 0), 2);
        c.put(x, 16, 2);
        c.due("it came at 25996", x.tick(30995), 0);
        c.due("5000 behind", x.tick(30996), 1);
    }

    private static void whatEnds(Checks c) {
        ServiceRows2 x = Checks.inSession(3);
        x.identifier(1, 1, 1, 0);
        x.routine(1, 3);
        x.control(1, 0, 4);
        x.rights(2);
        c.put(x, 47, 0, 1, 1);
        c.put(x, 52, 0, 1);
        c.put(x, 49, 1, 0, 1);
        c.due("not yet", x.tick(4999), 0);
        c.due("still controlled", x.value(1), 0);
        c.due("ends", x.tick(5000), 1);
        c.due("no control", x.value(1), 4);
        c.due("no LEVEL", x.rights(0), 0);
        c.put(x, 16, 3);
        c.refuses("no transfer", x, 36, 55);
        c.refuses("the routine goes on", x, 36, 49, 1, 0, 1);
        x.tick(5000);
        c.serves("its steps were less with each", x, Checks.q(49, 1, 0, 1), 113, 1, 0, 1, 3);
    }

    private static void steps(Checks c) {
        ServiceRows2 x = Checks.inSession(2);
        x.routine(1, 2);
        x.routine(2, 1);
        x.routine(3, 1);
        c.put(x, 49, 1, 0, 1);
        c.put(x, 49, 1, 0, 2);
        x.tick(-1);
        x.tick(LATEST + 1);
        c.refuses("a refused time is no step", x, 16, 49, 3, 0, 2);
        x.tick(0);
        c.serves("each has one less", x, Checks.q(49, 3, 0, 2), 113, 3, 0, 2, 0);
        c.refuses("this one still has one", x, 16, 49, 3, 0, 1);
        c.serves("one that was not started has all", x, Checks.q(49, 1, 0, 3), 113, 1, 0, 3, 1);
        x.tick(0);
        c.serves("none left", x, Checks.q(49, 3, 0, 1), 113, 3, 0, 1, 0);
        c.serves("not less than none", x, Checks.q(49, 3, 0, 2), 113, 3, 0, 2, 0);
    }
}
