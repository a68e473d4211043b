/** Promise 5: condition. */
public final class ConditionTest {
    public static void main(String[] args) {
        Checks c = new Checks();
        fromNowOn(c);
        both(c);
        thereIsNone(c);
        c.end();
    }

    private static void fromNowOn(Checks c) {
        c.sentence("A CONDITION holds from now on, or not");
        ServiceRows2 x = new ServiceRows2();
        x.condition(1, false);
        c.serves("quiet is asked for nowhere", x, Checks.q(16, 3), 80, 3);
        x.condition(0, false);
        c.refuses("standing is asked for", x, 34, 16, 3);
        x.condition(1, true);
        c.refuses("quiet does not help", x, 34, 16, 3);
        x.condition(0, true);
        c.serves("standing again", x, Checks.q(16, 3), 80, 3);
    }

    private static void both(Checks c) {
        c.sentence("1 if both do, 0 if not");
        for (int first = 0; first <= 1; first++) {
            for (int mask = 0; mask < 4; mask++) {
                ServiceRows2 x = new ServiceRows2();
                x.condition(first, (mask >> first & 1) == 1);
                int other = 1 - first;
                c.due("holding " + mask, x.condition(other, (mask >> other & 1) == 1), mask == 3 ? 1 : 0);
            }
            ServiceRows2 x = new ServiceRows2();
            c.due("the other one holds at first", x.condition(first, false), 0);
            c.due("and again", x.condition(first, true), 1);
        }
    }

    private static void thereIsNone(Checks c) {
        c.sentence("-1 there is none");
        ServiceRows2 x = new ServiceRows2();
        int[] kinds = {-1, 2, 3, Integer.MIN_VALUE, Integer.MAX_VALUE};
        for (int kind : kinds) {
            c.due("kind " + kind, x.condition(kind, false), -1);
            c.due("kind " + kind, x.condition(kind, true), -1);
        }
        c.due("both still hold", x.condition(0, true), 1);
        x.condition(0, false);
        x.condition(2, true);
        c.due("it still does not hold", x.condition(1, true), 0);
    }
}
