/** Promise 11: code. */
public final class CodeTest {
    public static void main(String[] args) {
        Checks c = new Checks();
        last(c);
        noneFailed(c);
        none(c);
        c.end();
    }

    private static void last(Checks c) {
        c.sentence("The last QUESTION's code");
        ServiceRows2 x = new ServiceRows2();
        c.put(x, 99);
        c.due("no such SERVICE", x.code(), 17);
        c.due("twice", x.code(), 17);
        c.put(x, true, 62, 5);
        c.due("a code that is not told", x.code(), 18);
        x.ask((byte) 2);
        x.ask((byte) 62);
        c.due("one is under way", x.code(), 18);
        x.transfer(1, (byte) 1);
        c.due("of a transfer", x.code(), 127);
        x.tick(1);
        x.identifier(-1, 0, 0, 0);
        c.due("other calls leave it", x.code(), 127);
        x.ask((byte) 1);
        c.due("of that one", x.code(), 18);
        x.ask((byte) 0);
        c.due("without octets", x.code(), 19);
    }

    private static void noneFailed(Checks c) {
        c.sentence("0 if no check failed");
        ServiceRows2 x = new ServiceRows2();
        c.put(x, 62, 0);
        c.due("with an ANSWER", x.code(), 0);
        c.put(x, 99);
        c.put(x, 62, 128);
        c.due("without one", x.code(), 0);
        c.put(x, 99);
        c.put(x, true, 62, 0);
        c.due("to ALL", x.code(), 0);
    }

    private static void none(Checks c) {
        c.sentence("-1 there was none");
        ServiceRows2 x = new ServiceRows2();
        c.due("no octet", x.code(), -1);
        x.ask((byte) 2);
        c.due("a first octet", x.code(), -1);
        x.ask((byte) 62);
        c.due("under way", x.code(), -1);
        x.ask((byte) 0);
        c.due("at its end", x.code(), 0);
        ServiceRows2 other = new ServiceRows2();
        other.tick(9);
        other.rights(2);
        c.due("other calls are none", other.code(), -1);
        other.transfer(1, (byte) 1);
        c.due("a transfer is one", other.code(), 127);
    }
}
