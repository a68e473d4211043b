/** Promise 4: routine. */
public final class RoutineTest {
    public static void main(String[] args) {
        Checks c = new Checks();
        howMany(c);
        numbers(c);
        steps(c);
        aNumberIsNone(c);
        atMost10(c);
        thereIsOne(c);
        thereAre10(c);
        firstThatFits(c);
        c.end();
    }

    private static void howMany(Checks c) {
        c.sentence("A routine: how many there are.");
        ServiceRows2 x = new ServiceRows2();
        c.due("first", x.routine(7, 1), 1);
        x.routine(7, 1);
        x.routine(8, 101);
        x.identifier(9, 1, 1, 0);
        c.due("second, refused ones and identifiers do not count", x.routine(8, 1), 2);
    }

    private static void numbers(Checks c) {
        c.sentence("ROUTINES (0 .. 65535");
        ServiceRows2 x = Checks.inSession(2);
        int[] none = {-1, 65536, Integer.MIN_VALUE, Integer.MAX_VALUE};
        for (int id : none) {
            c.due("routine " + id, x.routine(id, 1), -2);
        }
        c.refuses("65535 is no -1", x, 49, 49, 1, 255, 255);
        c.due("0", x.routine(0, 4), 1);
        c.due("65535", x.routine(65535, 5), 2);
        c.serves("0 is there", x, Checks.q(49, 1, 0, 0), 113, 1, 0, 0, 4);
        c.serves("65535 is there", x, Checks.q(49, 1, 255, 255), 113, 1, 255, 255, 5);
    }

    private static void steps(Checks c) {
        c.sentence("have STEPS (0 .. 100); when STARTED, so many are LEFT at first");
        ServiceRows2 x = Checks.inSession(2);
        int[] none = {-1, 101, Integer.MIN_VALUE, Integer.MAX_VALUE};
        for (int steps : none) {
            c.due("STEPS " + steps, x.routine(1, steps), -2);
        }
        int[] some = {0, 1, 99, 100};
        for (int i = 0; i < some.length; i++) {
            c.due("STEPS " + some[i], x.routine(i, some[i]), i + 1);
            c.serves("so many LEFT", x, Checks.q(49, 1, 0, i), 113, 1, 0, i, some[i]);
        }
    }

    private static void aNumberIsNone(Checks c) {
        c.sentence("-2 a number is none");
        ServiceRows2 x = new ServiceRows2();
        int[] ids = {-1, 0, 65535, 65536};
        int[] steps = {-1, 0, 100, 101};
        for (int i = 0; i < 4; i++) {
            for (int k = 0; k < 4; k++) {
                boolean bothAre = (i == 1 || i == 2) && (k == 1 || k == 2);
                int answered = x.routine(ids[i], steps[k]);
                c.due(ids[i] + " and " + steps[k], answered == -2 ? 1 : 0, bothAre ? 0 : 1);
            }
        }
    }

    private static void atMost10(Checks c) {
        c.sentence("at most 10");
        ServiceRows2 x = new ServiceRows2();
        int made = 0;
        for (int id = 0; id < 100; id++) {
            made += x.routine(id, 1) > 0 ? 1 : 0;
        }
        c.due("made", made, 10);
    }

    private static void thereIsOne(Checks c) {
        c.sentence("-3 there is one");
        ServiceRows2 x = Checks.inSession(2);
        x.routine(1, 5);
        c.due("the same", x.routine(1, 5), -3);
        c.due("with other STEPS", x.routine(1, 9), -3);
        c.serves("it is as before", x, Checks.q(49, 1, 0, 1), 113, 1, 0, 1, 5);
        x.identifier(7, 1, 1, 0);
        c.due("an identifier is none", x.routine(7, 7), 2);
    }

    private static void thereAre10(Checks c) {
        c.sentence("-4 there are 10");
        ServiceRows2 x = Checks.inSession(2);
        for (int i = 0; i < 10; i++) {
            c.due("routine " + i, x.routine(i, i), i + 1);
        }
        c.due("the eleventh", x.routine(10, 1), -4);
        c.refuses("it is not there", x, 49, 49, 1, 0, 10);
        for (int i = 0; i < 10; i++) {
            c.serves("routine " + i + " is there", x, Checks.q(49, 1, 0, i), 113, 1, 0, i, i);
        }
    }

    private static void firstThatFits(Checks c) {
        c.sentence("answer, the first that fits: -1 an unknown number, -2 outside a range, -3 not in this state, -4 no room");
        ServiceRows2 x = new ServiceRows2();
        x.routine(0, 1);
        c.due("-2 before -3", x.routine(0, 101), -2);
        for (int i = 1; i < 10; i++) {
            x.routine(i, 1);
        }
        c.due("-2 before -4", x.routine(65536, 1), -2);
        c.due("-2 before -4", x.routine(10, -1), -2);
        c.due("-3 before -4", x.routine(0, 1), -3);
    }
}
