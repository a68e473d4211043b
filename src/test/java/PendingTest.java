/** Promise 8: pending. */
public final class PendingTest {
    public static void main(String[] args) {
        Checks c = new Checks();
        theBound(c);
        whatItWas(c);
        isNone(c);
        c.end();
    }

    private static void theBound(Checks c) {
        c.sentence("The BOUND (0 .. 10)");
        for (int bound = 0; bound <= 10; bound++) {
            ServiceRows2 x = Checks.inSession(2);
            x.pending(bound);
            x.routine(1, 9);
            c.put(x, 49, 1, 0, 1);
            for (int told = 0; told < bound; told++) {
                c.refuses("BOUND " + bound + ", told " + told, x, 120, 49, 3, 0, 1);
            }
            c.refuses("BOUND " + bound + ", told as often", x, 16, 49, 3, 0, 1);
        }
    }

    private static void whatItWas(Checks c) {
        c.sentence("what it was");
        ServiceRows2 x = new ServiceRows2();
        int was = 0;
        int[] bounds = {10, 10, 2, 0, 7, 1};
        for (int bound : bounds) {
            c.due("before " + bound, x.pending(bound), was);
            was = bound;
        }
        c.put(x, 16, 2);
        c.put(x, 17, 1);
        c.due("no SESSION and no reset changes it", x.pending(0), 1);
    }

    private static void isNone(Checks c) {
        c.sentence("-2 it is none");
        ServiceRows2 x = new ServiceRows2();
        x.pending(4);
        int[] none = {-1, 11, Integer.MIN_VALUE, Integer.MAX_VALUE};
        for (int bound : none) {
            c.due("BOUND " + bound, x.pending(bound), -2);
        }
        c.due("as before", x.pending(0), 4);
    }
}
