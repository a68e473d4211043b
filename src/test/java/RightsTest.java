/** Promise 6: rights. */
public final class RightsTest {
    public static void main(String[] args) {
        Checks c = new Checks();
        ServiceRows2 x = new ServiceRows2();
        c.due("LEVEL 3", x.rights(3), 0);
        int[] none = {-1, 4, Integer.MIN_VALUE, Integer.MAX_VALUE};
        for (int level : none) {
            c.due("LEVEL " + level, x.rights(level), -2);
        }
        c.due("LEVEL 1", x.rights(1), 3);
        c.due("LEVEL 2", x.rights(2), 1);
        c.due("LEVEL 0", x.rights(0), 2);
        for (int needed = 0; needed <= 3; needed++) {
            x.identifier(needed, 1, 1, needed);
        }
        for (int level = 0; level <= 3; level++) {
            x.rights(level);
            for (int needed = 0; needed <= 3; needed++) {
                c.put(x, 34, 0, needed);
                c.due("LEVEL " + needed + " read at " + level, x.code(), needed > level ? 51 : 0);
            }
        }
        c.put(x, 16, 1);
        c.due("a SESSION's end takes the LEVEL", x.rights(2), 0);
        c.put(x, 16, 4);
        c.due("a refused one does not", x.rights(2), 2);
        c.end();
    }
}
