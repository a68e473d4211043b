/** Promise 10: answer. */
public final class AnswerTest {
    public static void main(String[] args) {
        Checks c = new Checks();
        ServiceRows2 x = new ServiceRows2();
        int[] outside = {Integer.MIN_VALUE, -1, 0, 40, 41, 42, Integer.MAX_VALUE};
        for (int i : outside) {
            c.due("no answer at all " + i, Checks.throwsAt(x, i), 1);
        }
        x.identifier(0x8081, 2, 1, 0);
        x.control(0x8081, 0, 0xFF80);
        c.put(x, 34, 0x80, 0x81);
        c.reads("octets of all sizes", x, 98, 0x80, 0x81, 0xFF, 0x80);
        c.due("with its sign", x.answer(3), -1);
        c.due("twice", x.answer(3), -1);
        c.put(x, 62, 0);
        c.reads("a shorter one", x, 126, 0);
        for (int i : outside) {
            c.due("outside " + i, Checks.throwsAt(x, i), i == 0 ? 0 : 1);
        }
        x.ask((byte) 2);
        x.ask((byte) 62);
        c.reads("the last one while one is under way", x, 126, 0);
        x.ask((byte) 128);
        c.reads("the last question had none", x);
        x.tick(7);
        c.put(x, 200);
        c.reads("a refused one", x, 127, 200, 17);
        x.tick(9);
        x.identifier(5, 1, 1, 0);
        c.reads("other calls leave it", x, 127, 200, 17);
        c.end();
    }
}
