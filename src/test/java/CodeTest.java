/** Promise 11: code. */
public final class CodeTest {
    public static void main(String[] args) {
        Checks c = new Checks();
        ServiceRows2 x = new ServiceRows2();
        c.due("none", x.code(), -1);
        x.ask((byte) 1);
        c.due("none has come to its end", x.code(), -1);
        x.ask((byte) 99);
        c.due("no such service", x.code(), 17);
        c.due("twice", x.code(), 17);
        c.put(x, 62, 0);
        c.due("no check failed", x.code(), 0);
        c.put(x, true, 62, 5);
        c.due("a code that is not told", x.code(), 18);
        x.ask((byte) 2);
        x.ask((byte) 62);
        c.due("one under way", x.code(), 18);
        x.ask((byte) 128);
        c.due("no ANSWER, no code", x.code(), 0);
        x.transfer(1, (byte) 1);
        c.due("of a transfer", x.code(), 127);
        x.tick(1);
        x.identifier(-1, 0, 0, 0);
        c.due("other calls leave it", x.code(), 127);
        c.end();
    }
}
