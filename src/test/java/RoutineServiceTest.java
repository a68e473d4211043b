/** Promise 9, SERVICE 49: routines. */
public final class RoutineServiceTest {
    public static void main(String[] args) {
        Checks c = new Checks();
        session(c);
        length(c);
        function(c);
        known(c);
        startWithNoneLeft(c);
        startStanding(c);
        started(c);
        endStarted(c);
        endNoneLeft(c);
        resultStarted(c);
        told(c);
        toldSinceStarted(c);
        answer(c);
        orderOfChecks(c);
        c.end();
    }

    private static ServiceRows2 withOne(int session, int steps) {
        ServiceRows2 x = Checks.inSession(session);
        x.routine(1, steps);
        return x;
    }

    private static void session(Checks c) {
        c.sentence("49: not SESSION 1, or 127");
        for (int session = 1; session <= 3; session++) {
            c.codes("in SESSION " + session, withOne(session, 2), session == 1 ? 127 : 0, 49, 1, 0, 1);
        }
    }

    private static void length(Checks c) {
        c.sentence("n = 3, or 19");
        ServiceRows2 x = withOne(2, 2);
        c.refuses("n = 0", x, 19, 49);
        c.refuses("n = 1", x, 19, 49, 1);
        c.refuses("n = 2", x, 19, 49, 1, 0);
        c.refuses("n = 4", x, 19, 49, 1, 0, 1, 0);
        c.serves("n = 3", x, Checks.q(49, 1, 0, 1), 113, 1, 0, 1, 2);
    }

    private static void function(Checks c) {
        c.sentence("f is 1 .. 3, or 18; the routine");
        ServiceRows2 x = withOne(2, 0);
        int[] none = {0, 4, 127, 128, 132, 255};
        for (int f : none) {
            c.refuses("f = " + f, x, 18, 49, f, 0, 1);
        }
        for (int f = 1; f <= 3; f++) {
            c.serves("f = " + f, x, Checks.q(49, f, 0, 1), 113, f, 0, 1, 0);
        }
    }

    private static void known(Checks c) {
        c.sentence("the routine (the two octets) is known, or 49");
        ServiceRows2 x = Checks.inSession(2);
        x.routine(0x0201, 3);
        x.identifier(7, 1, 1, 0);
        for (int f = 1; f <= 3; f++) {
            c.refuses("258 is not 513", x, 49, 49, f, 1, 2);
            c.refuses("an identifier is none", x, 49, 49, f, 0, 7);
        }
        c.serves("the higher octet first", x, Checks.q(49, 1, 2, 1), 113, 1, 2, 1, 3);
    }

    private static void startWithNoneLeft(Checks c) {
        c.sentence("f = 1: none of its STEPS are LEFT, or 36");
        ServiceRows2 x = withOne(2, 2);
        c.serves("at first", x, Checks.q(49, 1, 0, 1), 113, 1, 0, 1, 2);
        c.refuses("two LEFT", x, 36, 49, 1, 0, 1);
        x.tick(0);
        c.refuses("one LEFT", x, 36, 49, 1, 0, 1);
        x.tick(0);
        c.serves("none LEFT", x, Checks.q(49, 1, 0, 1), 113, 1, 0, 1, 2);
        c.put(x, 49, 2, 0, 1);
        c.serves("none LEFT by f = 2", x, Checks.q(49, 1, 0, 1), 113, 1, 0, 1, 2);
        ServiceRows2 without = withOne(2, 0);
        c.serves("without STEPS", without, Checks.q(49, 1, 0, 1), 113, 1, 0, 1, 0);
        c.serves("at once again", without, Checks.q(49, 1, 0, 1), 113, 1, 0, 1, 0);
    }

    private static void startStanding(Checks c) {
        c.sentence("standing, or 34: it is STARTED");
        ServiceRows2 x = withOne(2, 2);
        x.condition(0, false);
        c.refuses("not standing", x, 34, 49, 1, 0, 1);
        c.refuses("it was not STARTED", x, 36, 49, 3, 0, 1);
        x.condition(0, true);
        x.condition(1, false);
        c.serves("standing but not quiet", x, Checks.q(49, 1, 0, 1), 113, 1, 0, 1, 2);
        x.condition(0, false);
        c.serves("f = 2 asks for no standing", x, Checks.q(49, 2, 0, 1), 113, 2, 0, 1, 0);
        c.serves("nor does f = 3", x, Checks.q(49, 3, 0, 1), 113, 3, 0, 1, 0);
    }

    private static void started(Checks c) {
        c.sentence("it is STARTED. f = 2");
        ServiceRows2 x = withOne(2, 3);
        x.routine(2, 5);
        c.put(x, 49, 1, 0, 1);
        c.refuses("this one is", x, 16, 49, 3, 0, 1);
        c.refuses("another one is not", x, 36, 49, 3, 0, 2);
        x.tick(0);
        c.serves("and has all its STEPS still", x, Checks.q(49, 1, 0, 2), 113, 1, 0, 2, 5);
    }

    private static void endStarted(Checks c) {
        c.sentence("f = 2: it is STARTED, or 36");
        ServiceRows2 x = withOne(2, 3);
        c.refuses("not STARTED", x, 36, 49, 2, 0, 1);
        c.put(x, 49, 1, 0, 1);
        c.serves("STARTED", x, Checks.q(49, 2, 0, 1), 113, 2, 0, 1, 0);
        c.serves("still STARTED", x, Checks.q(49, 2, 0, 1), 113, 2, 0, 1, 0);
        ServiceRows2 without = withOne(2, 0);
        c.refuses("without STEPS, not STARTED", without, 36, 49, 2, 0, 1);
    }

    private static void endNoneLeft(Checks c) {
        c.sentence("none are LEFT. f = 3");
        ServiceRows2 x = withOne(2, 100);
        x.routine(2, 4);
        c.put(x, 49, 1, 0, 1);
        c.put(x, 49, 1, 0, 2);
        c.put(x, 49, 2, 0, 1);
        c.serves("none LEFT", x, Checks.q(49, 3, 0, 1), 113, 3, 0, 1, 0);
        c.refuses("of another one some", x, 16, 49, 3, 0, 2);
    }

    private static void resultStarted(Checks c) {
        c.sentence("f = 3: it is STARTED, or 36");
        ServiceRows2 x = withOne(2, 3);
        x.pending(5);
        c.refuses("not STARTED", x, 36, 49, 3, 0, 1);
        ServiceRows2 without = withOne(2, 0);
        c.refuses("without STEPS, not STARTED", without, 36, 49, 3, 0, 1);
        c.put(without, 49, 1, 0, 1);
        c.serves("STARTED", without, Checks.q(49, 3, 0, 1), 113, 3, 0, 1, 0);
    }

    private static void told(Checks c) {
        c.sentence("if some are LEFT: 120, if that was told less often than the BOUND since it was STARTED, otherwise 16");
        for (int bound = 0; bound <= 10; bound++) {
            ServiceRows2 x = withOne(2, 1);
            x.pending(bound);
            c.put(x, 49, 1, 0, 1);
            for (int i = 0; i < bound; i++) {
                c.refuses("told " + i + " of " + bound, x, 120, 49, 3, 0, 1);
            }
            c.refuses("told as often", x, 16, 49, 3, 0, 1);
            c.refuses("and from then on", x, 16, 49, 3, 0, 1);
            x.tick(0);
            c.serves("none LEFT", x, Checks.q(49, 3, 0, 1), 113, 3, 0, 1, 0);
        }
        ServiceRows2 x = withOne(2, 9);
        x.routine(2, 9);
        x.pending(1);
        c.put(x, 49, 1, 0, 1);
        c.put(x, 49, 1, 0, 2);
        c.refuses("the one", x, 120, 49, 3, 0, 1);
        c.refuses("the other is told for itself", x, 120, 49, 3, 0, 2);
        c.refuses("the one again", x, 16, 49, 3, 0, 1);
        x.pending(2);
        c.refuses("a higher BOUND", x, 120, 49, 3, 0, 1);
        c.refuses("16 was not counted", x, 16, 49, 3, 0, 1);
        x.pending(0);
        c.refuses("a lower BOUND", x, 16, 49, 3, 0, 2);
    }

    private static void toldSinceStarted(Checks c) {
        c.sentence("since it was STARTED");
        ServiceRows2 x = withOne(2, 2);
        x.pending(1);
        c.put(x, 49, 1, 0, 1);
        c.refuses("told", x, 120, 49, 3, 0, 1);
        c.refuses("a refused START", x, 36, 49, 1, 0, 1);
        c.refuses("does not count", x, 16, 49, 3, 0, 1);
        c.put(x, 49, 2, 0, 1);
        c.put(x, 49, 1, 0, 1);
        c.refuses("STARTED again", x, 120, 49, 3, 0, 1);
        x.tick(0);
        x.tick(0);
        c.put(x, 49, 1, 0, 1);
        c.refuses("STARTED again after its STEPS", x, 120, 49, 3, 0, 1);
        c.put(x, 16, 3);
        c.refuses("another SESSION is no START", x, 16, 49, 3, 0, 1);
        c.put(x, 17, 3);
        c.put(x, 16, 2);
        c.put(x, 49, 1, 0, 1);
        c.refuses("STARTED again after a reset", x, 120, 49, 3, 0, 1);
    }

    private static void answer(Checks c) {
        c.sentence("113 f, itself, how many are LEFT");
        ServiceRows2 x = Checks.inSession(2);
        x.routine(0xFE80, 100);
        c.serves("100", x, Checks.q(49, 1, 0xFE, 0x80), 113, 1, 0xFE, 0x80, 100);
        c.serves("0", x, Checks.q(49, 2, 0xFE, 0x80), 113, 2, 0xFE, 0x80, 0);
        c.serves("0", x, Checks.q(49, 3, 0xFE, 0x80), 113, 3, 0xFE, 0x80, 0);
    }

    private static void orderOfChecks(Checks c) {
        c.sentence("The checks, in their order; the first that fails gives its code");
        ServiceRows2 x = withOne(1, 3);
        c.refuses("SESSION before n", x, 127, 49);
        c.refuses("SESSION before f", x, 127, 49, 0, 0, 1);
        c.refuses("SESSION before the routine", x, 127, 49, 1, 0, 9);
        c.put(x, 16, 2);
        c.refuses("n before f", x, 19, 49, 0, 0);
        c.refuses("n before the routine", x, 19, 49, 1, 0, 9, 9);
        c.refuses("f before the routine", x, 18, 49, 4, 0, 9);
        x.condition(0, false);
        c.refuses("the routine before standing", x, 49, 49, 1, 0, 9);
        x.condition(0, true);
        c.put(x, 49, 1, 0, 1);
        x.condition(0, false);
        c.refuses("LEFT before standing", x, 36, 49, 1, 0, 1);
        c.refuses("f before standing", x, 18, 49, 0, 0, 1);
    }
}
