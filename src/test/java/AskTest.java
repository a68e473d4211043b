/** Promise 9, the form of a QUESTION: its octets, to ALL, without an ANSWER. */
public final class AskTest {
    public static void main(String[] args) {
        Checks c = new Checks();
        noOctets(c);
        mostOctets(c);
        unknownServices(c);
        toAll(c);
        withoutAnswer(c);
        staysUnderWay(c);
        c.end();
    }

    private static void noOctets(Checks c) {
        ServiceRows2 x = new ServiceRows2();
        c.refuses("no octets", x, 19);
        c.refusesToAll("no octets to all", x, 19);
        c.serves("then another one", x, Checks.q(62, 0), 126, 0);
        c.refuses("no octets behind one that had some", x, 19);
    }

    private static void mostOctets(Checks c) {
        int[] heads = {60, 61, 127, -1};
        for (int head : heads) {
            ServiceRows2 x = new ServiceRows2();
            c.due("head", x.ask((byte) head), 0);
            for (int i = 0; i < 59; i++) {
                c.due("octet " + i, x.ask((byte) 62), 0);
            }
            c.due("no answer yet", x.code(), -1);
            c.due("octet 60 of " + head, x.ask((byte) 62), 3);
            c.due("code of " + head, x.code(), 19);
            c.serves("a new one", x, Checks.q(62, 0), 126, 0);
        }
        ServiceRows2 x = new ServiceRows2();
        x.ask((byte) 59);
        for (int i = 0; i < 58; i++) {
            x.ask((byte) 1);
        }
        c.due("octet 59", x.ask((byte) 1), 3);
    }

    private static void unknownServices(Checks c) {
        boolean[] known = new boolean[256];
        int[] services = {16, 17, 34, 46, 47, 49, 52, 54, 55, 62};
        for (int service : services) {
            known[service] = true;
        }
        for (int service = 0; service < 256; service++) {
            if (!known[service]) {
                ServiceRows2 x = new ServiceRows2();
                c.refuses("service " + service, x, 17, service);
                c.refuses("service " + service, x, 17, service, 1, 2, 3);
                c.isSilent("service " + service + " to all", x, true, 17, service, 1);
            }
        }
    }

    private static void toAll(Checks c) {
        ServiceRows2 x = new ServiceRows2();
        x.identifier(1, 1, 1, 1);
        x.routine(1, 5);
        c.due("an ANSWER to all", c.put(x, true, 62, 0), 2);
        c.reads("an ANSWER to all", x, 126, 0);
        c.isSilent("17", x, true, 17, 1);
        c.isSilent("18", x, true, 18, 62, 1);
        c.isSilent("49", x, true, 49, 34, 0, 2);
        c.isSilent("127", x, true, 127, 49, 1, 0, 1);
        c.refusesToAll("19", x, 19, 62);
        c.refusesToAll("51", x, 51, 34, 0, 1);
        x.condition(0, false);
        c.refusesToAll("34", x, 34, 16, 3);
        x.condition(0, true);
        c.put(x, 16, 3);
        c.refusesToAll("36", x, 36, 55);
        x.pending(1);
        c.put(x, 49, 1, 0, 1);
        c.refusesToAll("120", x, 120, 49, 3, 0, 1);
        c.refusesToAll("16", x, 16, 49, 3, 0, 1);
        c.due("52 to all", c.put(x, true, 52, 0, 1), 2);
        c.refusesToAll("112", x, 112, 52, 0, 1);
        c.refusesToAll("115", x, 115, 54, 2, 1);
        c.refusesToAll("113", x, 113, 54, 1, 1, 1);
        c.isSilent("a check of what is to all", x, true, 0, 16, 128 + 2);
        c.refuses("the SESSION changed", x, 127, 55);
    }

    private static void withoutAnswer(Checks c) {
        ServiceRows2 x = new ServiceRows2();
        x.routine(1, 2);
        c.isSilent("62", x, false, 0, 62, 128);
        c.refuses("62 that fails", x, 18, 62, 129);
        c.isSilent("16", x, false, 0, 16, 130);
        c.refuses("16 that fails", x, 18, 16, 132);
        c.refuses("16 of a wrong length", x, 19, 16, 130, 130);
        c.isSilent("49", x, false, 0, 49, 129, 0, 1);
        c.refuses("49 that fails", x, 36, 49, 129, 0, 1);
        c.refuses("49 with some left", x, 16, 49, 131, 0, 1);
        c.isSilent("17", x, false, 0, 17, 129);
        c.refuses("17 that fails", x, 18, 17, 130);
        c.refuses("17 was done", x, 127, 49, 1, 0, 1);
        x.identifier(0x8001, 1, 1, 0);
        c.serves("34 tells no function", x, Checks.q(34, 128, 1), 98, 128, 1, 0);
        c.serves("46 tells no function", x, Checks.q(46, 128, 1, 7), 110, 128, 1);
        c.put(x, 16, 3);
        c.serves("47 tells no function", x, Checks.q(47, 128, 1, 0), 111, 128, 1, 0);
        c.refuses("52 tells no function", x, 49, 52, 128, 1);
        c.put(x, 52, 0, 200);
        for (int block = 1; block < 130; block++) {
            c.due("block " + block, x.transfer(block, (byte) 1), 1);
        }
        c.serves("54 tells no function", x, Checks.q(54, 130, 1), 118, 130);
    }

    private static void staysUnderWay(Checks c) {
        ServiceRows2 x = new ServiceRows2();
        x.identifier(1, 1, 2, 0);
        c.put(x, 16, 2);
        x.ask((byte) 3);
        x.ask((byte) 34);
        x.ask((byte) 0);
        c.reads("the ANSWER before", x, 80, 2);
        c.due("the code before", x.code(), 0);
        c.due("time goes on", x.tick(5000), 1);
        c.due("the end", x.ask((byte) 1), 3);
        c.due("checked at its end", x.code(), 49);
    }
}
