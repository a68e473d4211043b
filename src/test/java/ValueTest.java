/** Promise 14: value. */
public final class ValueTest {
    public static void main(String[] args) {
        Checks c = new Checks();
        ofItsOctets(c);
        controlOrOwn(c);
        putTogether(c);
        none(c);
        c.end();
    }

    private static void ofItsOctets(Checks c) {
        c.sentence("An identifier's VALUE, of its octets (without sign, but for 8 of them)");
        long[] numbers = {0, 1, -1, 127, 128, 255, 256, 65535, 65536, 0x0123456789ABCDEFL, 0x80FF80FF80FF80FFL,
            Long.MIN_VALUE, Long.MAX_VALUE};
        for (int length = 1; length <= 8; length++) {
            ServiceRows2 x = new ServiceRows2();
            x.identifier(length, length, 3, 3);
            for (long number : numbers) {
                x.control(length, 0, number);
                long want = length == 8 ? number : number & (1L << 8 * length) - 1;
                c.due(length + " octets of " + number, x.value(length), want);
            }
        }
    }

    private static void controlOrOwn(Checks c) {
        c.sentence("Its VALUE is that of the CONTROL, if there is one, otherwise the OWN one");
        ServiceRows2 x = Checks.inSession(2);
        x.identifier(65535, 3, 1, 0);
        x.identifier(0, 2, 1, 0);
        x.control(65535, 0, 0x1000001L);
        x.control(0, 0, 5);
        c.due("the OWN one", x.value(65535), 1);
        c.put(x, 47, 255, 255, 3, 255, 255, 254);
        c.due("the CONTROL", x.value(65535), 0xFFFFFEL);
        c.due("of another one its own", x.value(0), 5);
        c.put(x, 47, 255, 255, 1);
        c.due("a CONTROL of 0", x.value(65535), 0);
        c.put(x, 47, 255, 255, 0);
        c.due("the OWN one again", x.value(65535), 1);
    }

    private static void putTogether(Checks c) {
        c.sentence("of its octets");
        ServiceRows2 x = new ServiceRows2();
        x.identifier(1, 4, 1, 0);
        x.control(1, 0, 0x80FF7F01L);
        for (int n = 1; n <= 4; n++) {
            x.dynamic(10 + n, 1, n);
            c.due("PUT TOGETHER of " + n, x.value(10 + n), 0x80FF7F01L >> 8 * (4 - n));
        }
        x.dynamic(14, 1, 4);
        c.due("eight octets", x.value(14), 0x80FF7F0180FF7F01L);
    }

    private static void none(Checks c) {
        c.sentence("0 if there is none");
        ServiceRows2 x = new ServiceRows2();
        c.due("at first", x.value(0), 0);
        x.identifier(65535, 1, 1, 0);
        x.identifier(0, 1, 1, 0);
        x.control(65535, 0, 7);
        x.control(0, 0, 8);
        x.routine(1, 5);
        int[] none = {1, -1, 65534, 65536, Integer.MIN_VALUE, Integer.MAX_VALUE};
        for (int id : none) {
            c.due("identifier " + id, x.value(id), 0);
        }
    }
}
