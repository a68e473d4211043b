import java.util.function.Consumer;

/**
 * A QUESTION of which a check fails leaves nothing behind but its ANSWER, its code and its time: all
 * else is as if another one had failed.
 */
public final class FailedChecksTest {
    public static void main(String[] args) {
        Checks c = new Checks();
        sessionsAndResets(c);
        readingAndWriting(c);
        controls(c);
        routines(c);
        transfers(c);
        wrongSession(c);
        notStanding(c);
        c.end();
    }

    private static void failed(Checks c, int session, boolean standing, int code, int... question) {
        Consumer<ServiceRows2> making = x -> {
            Twins.makeRich(x, session);
            x.condition(0, standing);
        };
        String what = "code " + code + " of " + question[0];
        Twins.same(c, what, Twins.LAST + 1, making, x -> c.codes(what, x, code, question), x -> c.put(x, 99));
    }

    private static void sessionsAndResets(Checks c) {
        c.sentence("the first that fails gives its code", "16, 62, 17");
        failed(c, 3, true, 19, 16, 2, 2);
        failed(c, 3, true, 18, 16, 4);
        failed(c, 3, true, 18, 16, 128);
        failed(c, 3, true, 19, 62);
        failed(c, 3, true, 18, 62, 1);
        failed(c, 3, true, 19, 17);
        failed(c, 3, true, 18, 17, 2);
    }

    private static void readingAndWriting(Checks c) {
        c.sentence("the first that fails gives its code", "34, 46");
        failed(c, 3, true, 19, 34, 0);
        failed(c, 3, true, 49, 34, 0, 77);
        failed(c, 3, true, 51, 34, 0, 1, 0, 3);
        failed(c, 3, true, 19, 46, 0, 1);
        failed(c, 3, true, 49, 46, 0, 77, 1);
        failed(c, 3, true, 49, 46, 0, 9, 1, 1);
        failed(c, 3, true, 49, 46, 0, 3, 1);
        failed(c, 3, true, 19, 46, 0, 1, 1);
        failed(c, 3, true, 19, 46, 0, 1, 1, 1, 1);
        failed(c, 1, true, 49, 46, 0, 2, 1, 2, 3, 4, 5, 6, 7, 8);
    }

    private static void controls(Checks c) {
        c.sentence("the first that fails gives its code", "47");
        failed(c, 3, true, 19, 47, 0, 1);
        failed(c, 3, true, 49, 47, 0, 77, 1);
        failed(c, 3, true, 49, 47, 0, 9, 1);
        failed(c, 3, true, 51, 47, 0, 3, 1);
        failed(c, 3, true, 49, 47, 0, 1, 4);
        failed(c, 3, true, 19, 47, 0, 1, 0, 0);
        failed(c, 3, true, 19, 47, 0, 1, 1, 0);
        failed(c, 3, true, 19, 47, 0, 2, 2, 0);
        failed(c, 3, true, 19, 47, 0, 2, 3, 1, 2, 3, 4, 5, 6, 7);
    }

    private static void routines(Checks c) {
        c.sentence("the first that fails gives its code", "49");
        failed(c, 3, true, 19, 49, 1, 0);
        failed(c, 3, true, 18, 49, 0, 0, 1);
        failed(c, 3, true, 49, 49, 1, 0, 77);
        failed(c, 3, true, 36, 49, 1, 0, 1);
        failed(c, 3, true, 36, 49, 2, 0, 3);
        failed(c, 3, true, 36, 49, 3, 0, 3);
    }

    private static void transfers(Checks c) {
        c.sentence("the first that fails gives its code", "52, 54, 55");
        failed(c, 3, true, 19, 52, 0);
        failed(c, 3, true, 112, 52, 0, 200);
        failed(c, 3, true, 19, 54, 2);
        failed(c, 3, true, 115, 54, 0, 9);
        failed(c, 3, true, 115, 54, 3, 9);
        failed(c, 3, true, 113, 54, 2, 9, 9, 9, 9);
        failed(c, 3, true, 19, 55, 0);
        failed(c, 3, true, 36, 55);
    }

    private static void wrongSession(Checks c) {
        c.sentence("SESSION 3, or 127");
        failed(c, 1, true, 127, 47, 0, 1, 3, 9, 9);
        failed(c, 1, true, 127, 49, 2, 0, 1);
        for (int session = 1; session <= 2; session++) {
            failed(c, session, true, 127, 52, 0, 1);
            failed(c, session, true, 127, 54, 1, 1);
            failed(c, session, true, 127, 55);
        }
    }

    private static void notStanding(Checks c) {
        c.sentence("standing, or 34");
        for (int session = 1; session <= 3; session++) {
            failed(c, session, false, 34, 16, 3);
            failed(c, session, false, 34, 17, 1);
            failed(c, session, false, 34, 17, 3);
            failed(c, session, false, 34, 46, 0, 1, 9, 9);
        }
        failed(c, 3, false, 34, 49, 1, 0, 3);
    }
}
