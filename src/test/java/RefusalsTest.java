import java.util.function.Consumer;
import java.util.function.ToIntFunction;

/** REFUSALS change nothing: whatever can be seen of an object is as if the call had not been made. */
public final class RefusalsTest {
    public static void main(String[] args) {
        Checks c = new Checks();
        identifier(c);
        dynamic(c);
        routine(c);
        condition(c);
        rights(c);
        control(c);
        pending(c);
        tick(c);
        noRoom(c);
        calls(c);
        c.end();
    }

    private static void rich(ServiceRows2 x) {
        Twins.makeRich(x, 3);
    }

    private static void richAndFull(ServiceRows2 x) {
        rich(x);
        Twins.fill(x);
    }

    /** A QUESTION to ALL, three of its four octets there. */
    private static void underWay(ServiceRows2 x) {
        rich(x);
        x.ask((byte) (128 + 3));
        x.ask((byte) 34);
        x.ask((byte) 0);
    }

    private static void refused(Checks c, String what, int answer, ToIntFunction<ServiceRows2> call) {
        unchanged(c, what, RefusalsTest::rich, answer, call);
        unchanged(c, what + ", a QUESTION under way", RefusalsTest::underWay, answer, call);
    }

    private static void unchanged(Checks c, String what, Consumer<ServiceRows2> making, int answer,
            ToIntFunction<ServiceRows2> call) {
        ServiceRows2 x = new ServiceRows2();
        making.accept(x);
        c.due(what, call.applyAsInt(x), answer);
        Twins.same(c, what, Twins.LAST, making, call::applyAsInt, twin -> { });
    }

    private static void identifier(Checks c) {
        c.sentence("REFUSALS change nothing", "identifier");
        refused(c, "no number", -2, x -> x.identifier(-1, 1, 1, 0));
        refused(c, "no number", -2, x -> x.identifier(65536, 1, 1, 0));
        refused(c, "no LENGTH", -2, x -> x.identifier(77, 9, 1, 0));
        refused(c, "no SESSION", -2, x -> x.identifier(77, 1, 0, 0));
        refused(c, "no LEVEL", -2, x -> x.identifier(77, 1, 1, 4));
        refused(c, "there is one", -3, x -> x.identifier(1, 1, 3, 3));
        refused(c, "there is a PUT TOGETHER one", -3, x -> x.identifier(9, 1, 3, 3));
    }

    private static void dynamic(Checks c) {
        c.sentence("REFUSALS change nothing", "dynamic");
        refused(c, "no from", -1, x -> x.dynamic(77, 78, 1));
        refused(c, "no id", -2, x -> x.dynamic(-1, 1, 1));
        refused(c, "no octets", -2, x -> x.dynamic(77, 1, 0));
        refused(c, "more than LENGTH", -2, x -> x.dynamic(9, 1, 3));
        refused(c, "id of another one", -3, x -> x.dynamic(1, 2, 1));
        refused(c, "from is PUT TOGETHER", -3, x -> x.dynamic(77, 9, 1));
        refused(c, "more than 8", -4, x -> x.dynamic(10, 1, 1));
        refused(c, "more than 8 by the last of them", -4, x -> x.dynamic(9, 2, 7));
    }

    private static void routine(Checks c) {
        c.sentence("REFUSALS change nothing", "routine");
        refused(c, "no number", -2, x -> x.routine(-1, 1));
        refused(c, "no STEPS", -2, x -> x.routine(77, 101));
        refused(c, "there is one that is STARTED", -3, x -> x.routine(1, 9));
        refused(c, "there is one that is not", -3, x -> x.routine(3, 9));
    }

    private static void condition(Checks c) {
        c.sentence("REFUSALS change nothing", "condition");
        refused(c, "kind 2 does not hold", -1, x -> x.condition(2, false));
        refused(c, "kind 2 holds", -1, x -> x.condition(2, true));
        refused(c, "kind -1 does not hold", -1, x -> x.condition(-1, false));
    }

    private static void rights(Checks c) {
        c.sentence("REFUSALS change nothing", "rights");
        refused(c, "below", -2, x -> x.rights(-1));
        refused(c, "above", -2, x -> x.rights(4));
    }

    private static void control(Checks c) {
        c.sentence("REFUSALS change nothing", "control");
        refused(c, "none", -1, x -> x.control(77, 0, 5));
        refused(c, "no kind", -2, x -> x.control(1, 2, 0));
        refused(c, "no kind", -2, x -> x.control(1, -1, 0));
        refused(c, "PUT TOGETHER, kind 0", -3, x -> x.control(9, 0, 5));
        refused(c, "PUT TOGETHER, kind 1", -3, x -> x.control(9, 1, 0));
    }

    private static void pending(Checks c) {
        c.sentence("REFUSALS change nothing", "pending");
        refused(c, "below", -2, x -> x.pending(-1));
        refused(c, "above", -2, x -> x.pending(11));
    }

    private static void tick(Checks c) {
        c.sentence("REFUSALS change nothing", "tick");
        refused(c, "less than before", -2, x -> x.tick(199));
        refused(c, "below 0", -2, x -> x.tick(Long.MIN_VALUE));
        refused(c, "above 2^60", -2, x -> x.tick((1L << 60) + 1));
    }

    private static void noRoom(Checks c) {
        c.sentence("REFUSALS change nothing", "there are 40, there are 10");
        unchanged(c, "identifier", RefusalsTest::richAndFull, -4, x -> x.identifier(77, 1, 1, 0));
        unchanged(c, "dynamic", RefusalsTest::richAndFull, -4, x -> x.dynamic(77, 1, 1));
        unchanged(c, "routine", RefusalsTest::richAndFull, -4, x -> x.routine(77, 1));
    }

    /** These refuse nothing, but they only look. */
    private static void calls(Checks c) {
        c.sentence("Nothing is promised beyond the answers and state changes described above");
        refused(c, "value", 0x0506, x -> (int) x.value(1));
        refused(c, "value of none", 0, x -> (int) x.value(77));
        refused(c, "code", 0, x -> x.code());
        refused(c, "answer", 118, x -> x.answer(0));
        refused(c, "answer behind", 1, x -> Checks.throwsAt(x, 2));
        refused(c, "answer before", 1, x -> Checks.throwsAt(x, -1));
    }
}
