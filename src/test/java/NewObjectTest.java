/** Promise 1: no identifiers, no routines, BOUND 0, no ANSWER; and what the terms say holds at first. */
public final class NewObjectTest {
    public static void main(String[] args) {
        Checks c = new Checks();
        ServiceRows2 x = new ServiceRows2();
        c.due("code of no question", x.code(), -1);
        c.reads("no answer", x);
        c.due("value of none", x.value(0), 0);
        c.due("control of none", x.control(0, 0, 1), -1);
        c.due("BOUND", x.pending(0), 0);
        c.due("LEVEL", x.rights(0), 0);
        c.due("both conditions hold", new ServiceRows2().condition(0, true), 1);
        c.due("both conditions hold", new ServiceRows2().condition(1, true), 1);
        c.due("first identifier", x.identifier(0, 1, 1, 0), 1);
        c.due("first routine", x.routine(0, 0), 1);
        c.due("OWN value at first", x.value(0), 0);
        c.refuses("SESSION 1 at first", new ServiceRows2(), 127, 49, 1, 0, 0);
        c.due("time 0 at first", new ServiceRows2().tick(0), 0);
        c.due("time 0 at first", new ServiceRows2().tick(-1), -2);
        objectsAreApart(c);
        c.end();
    }

    private static void objectsAreApart(Checks c) {
        ServiceRows2 one = new ServiceRows2();
        ServiceRows2 other = new ServiceRows2();
        one.identifier(5, 2, 1, 0);
        one.control(5, 0, 77);
        one.pending(4);
        c.put(one, 62, 0);
        c.due("value of the one", one.value(5), 77);
        c.due("value of the other", other.value(5), 0);
        c.due("identifiers of the other", other.identifier(6, 1, 1, 0), 1);
        c.due("BOUND of the other", other.pending(0), 0);
        c.due("code of the other", other.code(), -1);
        c.reads("answer of the other", other);
    }
}
