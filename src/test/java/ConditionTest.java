/** Promise 5: condition. */
public final class ConditionTest {
    public static void main(String[] args) {
        Checks c = new Checks();
        ServiceRows2 x = new ServiceRows2();
        int[] kinds = {-1, 2, 3, Integer.MIN_VALUE, Integer.MAX_VALUE};
        for (int kind : kinds) {
            c.due("condition " + kind, x.condition(kind, false), -1);
        }
        c.due("both still hold", x.condition(0, true), 1);
        c.due("not standing", x.condition(0, false), 0);
        c.due("nor quiet", x.condition(1, false), 0);
        c.due("standing, not quiet", x.condition(0, true), 0);
        c.due("both again", x.condition(1, true), 1);
        c.due("not quiet", x.condition(1, false), 0);
        c.serves("quiet is asked for nowhere", x, Checks.q(16, 3), 80, 3);
        c.due("not standing, but quiet", x.condition(0, false), 0);
        c.due("not standing, but quiet", x.condition(1, true), 0);
        c.refuses("standing is asked for", x, 34, 16, 3);
        c.end();
    }
}
