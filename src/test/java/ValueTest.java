/** Promise 14: value. */
public final class ValueTest {
    public static void main(String[] args) {
        Checks c = new Checks();
        for (int length = 1; length <= 8; length++) {
            ServiceRows2 x = new ServiceRows2();
            x.identifier(length, length, 3, 3);
            long[] numbers = {0, 1, -1, 127, 128, 255, 256, 0x0123456789ABCDEFL, Long.MIN_VALUE, Long.MAX_VALUE};
            for (long number : numbers) {
                x.control(length, 0, number);
                long want = length == 8 ? number : number & (1L << 8 * length) - 1;
                c.due(length + " octets of " + number, x.value(length), want);
            }
        }
        ServiceRows2 x = Checks.inSession(2);
        x.identifier(65535, 3, 1, 0);
        x.identifier(0, 2, 1, 0);
        int[] none = {1, -1, 65536, Integer.MIN_VALUE, Integer.MAX_VALUE};
        for (int id : none) {
            c.due("identifier " + id, x.value(id), 0);
        }
        x.control(65535, 0, 0x1000001L);
        x.control(0, 0, 5);
        c.due("each its own", x.value(65535), 1);
        c.due("each its own", x.value(0), 5);
        c.put(x, 47, 255, 255, 3, 255, 255, 255);
        c.due("the control", x.value(65535), 0xFFFFFFL);
        x.dynamic(7, 65535, 3);
        x.dynamic(7, 0, 2);
        c.due("put together", x.value(7), 0xFFFFFF0005L);
        c.end();
    }
}
