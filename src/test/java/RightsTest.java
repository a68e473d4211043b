/** Promise 6: rights. */
public final class RightsTest {
    public static void main(String[] args) {
        Checks c = new Checks();
        presentLevel(c);
        whatItWas(c);
        isNone(c);
        c.end();
    }

    private static void presentLevel(Checks c) {
        c.sentence("The present LEVEL (0 .. 3)");
        ServiceRows2 x = new ServiceRows2();
        for (int needed = 0; needed <= 3; needed++) {
            x.identifier(needed, 1, 1, needed);
        }
        int[] levels = {3, 0, 1, 2};
        for (int level : levels) {
            x.rights(level);
            for (int needed = 0; needed <= 3; needed++) {
                c.codes("LEVEL " + needed + " at " + level, x, needed > level ? 51 : 0, 34, 0, needed);
            }
        }
    }

    private static void whatItWas(Checks c) {
        c.sentence("what it was");
        ServiceRows2 x = new ServiceRows2();
        int was = 0;
        int[] levels = {3, 3, 1, 2, 0, 0, 1};
        for (int level : levels) {
            c.due("before " + level, x.rights(level), was);
            was = level;
        }
        c.put(x, 16, 4);
        c.due("a SESSION that does not END leaves it", x.rights(2), 1);
        c.put(x, 16, 1);
        c.due("one that ENDS does not", x.rights(2), 0);
    }

    private static void isNone(Checks c) {
        c.sentence("-2 it is none");
        ServiceRows2 x = new ServiceRows2();
        x.rights(2);
        int[] none = {-1, 4, Integer.MIN_VALUE, Integer.MAX_VALUE};
        for (int level : none) {
            c.due("LEVEL " + level, x.rights(level), -2);
        }
        c.due("as before", x.rights(0), 2);
    }
}
