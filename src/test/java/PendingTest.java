/** Promise 8: pending. */
public final class PendingTest {
    public static void main(String[] args) {
        Checks c = new Checks();
        ServiceRows2 x = Checks.inSession(2);
        c.due("BOUND 10", x.pending(10), 0);
        int[] none = {-1, 11, Integer.MIN_VALUE, Integer.MAX_VALUE};
        for (int n : none) {
            c.due("BOUND " + n, x.pending(n), -2);
        }
        c.due("BOUND 2", x.pending(2), 10);
        x.routine(1, 9);
        x.routine(2, 9);
        c.put(x, 49, 1, 0, 1);
        c.put(x, 49, 1, 0, 2);
        c.refuses("first", x, 120, 49, 3, 0, 1);
        c.refuses("second", x, 120, 49, 3, 0, 1);
        c.refuses("the BOUND", x, 16, 49, 3, 0, 1);
        c.refuses("each routine has its own", x, 120, 49, 3, 0, 2);
        c.due("BOUND 3", x.pending(3), 2);
        c.refuses("third", x, 120, 49, 3, 0, 1);
        c.refuses("the BOUND again", x, 16, 49, 3, 0, 1);
        c.put(x, 49, 2, 0, 1);
        c.put(x, 49, 1, 0, 1);
        c.refuses("counted since it was STARTED", x, 120, 49, 3, 0, 1);
        c.due("BOUND 0", x.pending(0), 3);
        c.refuses("told none any more", x, 16, 49, 3, 0, 1);
        c.due("a reset leaves the BOUND", c.put(x, 17, 1), 2);
        c.due("BOUND as before", x.pending(1), 0);
        c.end();
    }
}
