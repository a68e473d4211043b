/** Promise 9, the form of a QUESTION: its octets, to ALL, without an ANSWER. */
public final class AskTest {
    public static void main(String[] args) {
        Checks c = new Checks();
        octetByOctet(c);
        howManyMore(c);
        moreThan60(c);
        toAll(c);
        service(c);
        failedCheckTells(c);
        keptFromAll(c);
        notKeptFromAll(c);
        noOctets(c);
        lowerSevenBits(c);
        highestBit(c);
        highestBitOfOthers(c);
        highestBitAndFailedCheck(c);
        others(c);
        countOfAnswer(c);
        c.end();
    }

    private static void octetByOctet(Checks c) {
        c.sentence("A QUESTION comes octet by octet");
        ServiceRows2 x = new ServiceRows2();
        x.identifier(1, 1, 2, 0);
        c.put(x, 16, 2);
        x.ask((byte) 3);
        x.ask((byte) 34);
        x.ask((byte) 0);
        c.due("time goes on", x.tick(5000), 1);
        c.due("the end", x.ask((byte) 1), 3);
        c.due("its checks are made at its end", x.code(), 49);
        x.ask((byte) 3);
        x.ask((byte) 34);
        x.identifier(2, 1, 1, 0);
        x.ask((byte) 0);
        x.control(2, 0, 8);
        c.due("other calls in between", x.ask((byte) 2), 4);
        c.reads("other calls in between", x, 98, 0, 2, 8);
    }

    private static void howManyMore(Checks c) {
        c.sentence("the first one tells by its lower seven bits how many more");
        for (int more = 1; more <= 60; more++) {
            for (int head = more; head <= more + 128; head += 128) {
                ServiceRows2 x = new ServiceRows2();
                c.due("the first", x.ask((byte) head), 0);
                for (int i = 1; i < more; i++) {
                    c.due("octet " + i + " of " + more, x.ask((byte) 46), 0);
                    c.due("it is under way", x.code(), -1);
                }
                c.due("the last of " + more, x.ask((byte) 46) > 0 || head > 128 ? 1 : 0, 1);
                c.due("its code", x.code(), more <= 3 ? 19 : 49);
                c.serves("the next one", x, Checks.q(62, 0), 126, 0);
            }
        }
    }

    private static void moreThan60(Checks c) {
        c.sentence("(more than 60 count as 60)");
        for (int head = 61; head <= 127; head++) {
            ServiceRows2 x = new ServiceRows2();
            x.ask((byte) head);
            for (int i = 1; i < 60; i++) {
                c.due("octet " + i + " of " + head, x.ask((byte) 99), 0);
            }
            c.due("it is under way", x.code(), -1);
            c.due("octet 60 of " + head, x.ask((byte) 99), 3);
            c.due("its code", x.code(), 17);
            c.serves("the next one", x, Checks.q(62, 0), 126, 0);
        }
    }

    private static void toAll(Checks c) {
        c.sentence("and by the highest whether it is to ALL");
        ServiceRows2 x = new ServiceRows2();
        c.refuses("not to ALL", x, 17, 99);
        c.isSilent("to ALL", x, true, 17, 99);
        c.refuses("the next one is not", x, 17, 99);
        c.due("an ANSWER to ALL", c.put(x, true, 62, 0), 2);
        c.reads("an ANSWER to ALL", x, 126, 0);
        c.isSilent("without one, as to one", x, true, 0, 16, 130);
        c.refuses("it was done", x, 49, 49, 1, 0, 0);
        x.ask((byte) 255);
        for (int i = 1; i < 60; i++) {
            x.ask((byte) 99);
        }
        c.due("to ALL with 127", x.ask((byte) 99), 0);
        c.due("its code", x.code(), 17);
    }

    private static void service(Checks c) {
        c.sentence("The first of these is the SERVICE, its number here without the first one n.");
        ServiceRows2 x = Checks.inSession(3);
        c.refuses("the first", x, 17, 200, 62, 0);
        c.serves("n = 1", x, Checks.q(62, 0), 126, 0);
        c.serves("n = 2", x, Checks.q(52, 0, 1), 116, 8);
        c.serves("n = 2", x, Checks.q(54, 1, 0), 118, 1);
        c.serves("n = 0", x, Checks.q(55), 119, 0, 0);
    }

    private static void failedCheckTells(Checks c) {
        c.sentence("the ANSWER then is 127, SERVICE, code");
        ServiceRows2 x = new ServiceRows2();
        c.due("octets", c.put(x, 99), 3);
        c.reads("an unknown SERVICE", x, 127, 99, 17);
        c.put(x, 255, 0);
        c.reads("a SERVICE above 127", x, 127, 255, 17);
        c.put(x, 52);
        c.reads("a code of 127", x, 127, 52, 127);
    }

    private static void keptFromAll(Checks c) {
        c.sentence("but there is none to ALL with codes 17, 18, 49, 127");
        ServiceRows2 x = new ServiceRows2();
        c.isSilent("17", x, true, 17, 1);
        c.isSilent("18", x, true, 18, 62, 1);
        c.isSilent("49", x, true, 49, 34, 0, 2);
        c.isSilent("127", x, true, 127, 49, 1, 0, 1);
        c.refuses("17 to one", x, 17, 1);
        c.refuses("18 to one", x, 18, 62, 1);
        c.refuses("49 to one", x, 49, 34, 0, 2);
        c.refuses("127 to one", x, 127, 49, 1, 0, 1);
    }

    /** The other side of the same sentence: every other code is told to ALL. */
    private static void notKeptFromAll(Checks c) {
        c.sentence("there is none to ALL with codes 17, 18, 49, 127", "with others there is one");
        ServiceRows2 x = new ServiceRows2();
        x.identifier(1, 1, 1, 1);
        x.routine(1, 5);
        c.refusesToAll("19", x, 19, 62);
        c.refusesToAll("51", x, 51, 34, 0, 1);
        x.condition(0, false);
        c.refusesToAll("34", x, 34, 16, 3);
        x.condition(0, true);
        c.put(x, 16, 3);
        c.refusesToAll("36", x, 36, 55);
        x.pending(1);
        c.put(x, 49, 1, 0, 1);
        c.refusesToAll("120", x, 120, 49, 3, 0, 1);
        c.refusesToAll("16", x, 16, 49, 3, 0, 1);
        c.due("52 to ALL", c.put(x, true, 52, 0, 1), 2);
        c.refusesToAll("112", x, 112, 52, 0, 1);
        c.refusesToAll("115", x, 115, 54, 2, 1);
        c.refusesToAll("113", x, 113, 54, 1, 1, 1);
    }

    private static void noOctets(Checks c) {
        c.sentence("No octets: SERVICE 0, code 19.");
        ServiceRows2 x = new ServiceRows2();
        c.due("at once", x.ask((byte) 0), 3);
        c.reads("its ANSWER", x, 127, 0, 19);
        c.due("its code", x.code(), 19);
        c.serves("then another one", x, Checks.q(62, 0), 126, 0);
        c.due("to ALL, behind one with octets", x.ask((byte) 128), 3);
        c.reads("its ANSWER", x, 127, 0, 19);
        c.refuses("an octet 0 is a SERVICE", x, 17, 0);
    }

    private static void lowerSevenBits(Checks c) {
        c.sentence("f is the next octet's lower seven bits");
        ServiceRows2 x = new ServiceRows2();
        x.routine(1, 2);
        c.isSilent("16", x, false, 0, 16, 128 + 2);
        c.refuses("SESSION 2, not 3", x, 127, 52, 0, 1);
        c.isSilent("62", x, false, 0, 62, 128);
        c.isSilent("49", x, false, 0, 49, 128 + 1, 0, 1);
        c.refuses("it is STARTED", x, 36, 49, 1, 0, 1);
        c.isSilent("49 2", x, false, 0, 49, 128 + 2, 0, 1);
        c.isSilent("49 3", x, false, 0, 49, 128 + 3, 0, 1);
        c.isSilent("17", x, false, 0, 17, 128 + 1);
        c.refuses("SESSION 1", x, 127, 49, 1, 0, 1);
    }

    private static void highestBit(Checks c) {
        c.sentence("if its highest one is 1 and no check fails, SERVICES 16, 17, 49, 62 have no ANSWER");
        for (int bit = 0; bit <= 128; bit += 128) {
            ServiceRows2 x = new ServiceRows2();
            x.routine(1, 2);
            c.due("62", c.put(x, 62, bit), bit == 0 ? 2 : 0);
            c.due("16", c.put(x, 16, bit + 2), bit == 0 ? 2 : 0);
            c.due("49", c.put(x, 49, bit + 1, 0, 1), bit == 0 ? 5 : 0);
            c.due("17", c.put(x, 17, bit + 1), bit == 0 ? 2 : 0);
            c.due("no check failed", x.code(), 0);
            c.due("its ANSWER", Checks.throwsAt(x, 0), bit == 0 ? 0 : 1);
        }
    }

    /** The other side of the same sentence: the bit is nothing special in other SERVICES. */
    private static void highestBitOfOthers(Checks c) {
        c.sentence("SERVICES 16, 17, 49, 62 have no ANSWER", "others have one");
        ServiceRows2 x = Checks.inSession(3);
        x.identifier(0x8001, 1, 1, 0);
        c.serves("34", x, Checks.q(34, 128, 1), 98, 128, 1, 0);
        c.serves("46", x, Checks.q(46, 128, 1, 7), 110, 128, 1);
        c.serves("47", x, Checks.q(47, 128, 1, 0), 111, 128, 1, 0);
        c.refuses("52", x, 49, 52, 128, 1);
        c.put(x, 52, 0, 200);
        for (int block = 1; block < 128; block++) {
            c.due("block " + block, x.transfer(block, (byte) 1), 1);
        }
        c.serves("54", x, Checks.q(54, 128, 1), 118, 128);
    }

    private static void highestBitAndFailedCheck(Checks c) {
        c.sentence("if its highest one is 1 and no check fails", "if one fails, there is an ANSWER");
        ServiceRows2 x = new ServiceRows2();
        x.routine(1, 2);
        c.refuses("62", x, 18, 62, 129);
        c.refuses("16", x, 18, 16, 132);
        c.refuses("16 of a wrong length", x, 19, 16, 130, 130);
        c.refuses("17", x, 18, 17, 130);
        c.refuses("49", x, 127, 49, 129, 0, 1);
        c.put(x, 16, 2);
        c.refuses("49 that is not STARTED", x, 36, 49, 131, 0, 1);
        c.put(x, 49, 1, 0, 1);
        c.refuses("49 with some LEFT", x, 16, 49, 131, 0, 1);
        x.pending(1);
        c.refuses("49 with 120", x, 120, 49, 131, 0, 1);
        c.refusesToAll("to ALL", x, 16, 49, 131, 0, 1);
    }

    private static void others(Checks c) {
        c.sentence("Others: 17.");
        boolean[] known = new boolean[256];
        int[] services = {16, 17, 34, 46, 47, 49, 52, 54, 55, 62};
        for (int service : services) {
            known[service] = true;
        }
        for (int service = 0; service < 256; service++) {
            ServiceRows2 x = Checks.inSession(3);
            if (known[service]) {
                c.put(x, service, 0, 0, 0, 0, 0, 0, 0, 0, 0, 0);
                c.due("SERVICE " + service, x.code(), service == 46 || service == 47 ? 49 : 19);
            } else {
                c.refuses("SERVICE " + service, x, 17, service);
                c.refuses("SERVICE " + service + " with octets", x, 17, service, 1, 2, 3);
            }
        }
    }

    private static void countOfAnswer(Checks c) {
        c.sentence("how many octets the ANSWER has, if it was the last one (0 for none); 0 otherwise");
        ServiceRows2 x = new ServiceRows2();
        x.identifier(1, 8, 1, 0);
        c.due("the first", x.ask((byte) 9), 0);
        c.due("the SERVICE", x.ask((byte) 34), 0);
        for (int i = 0; i < 3; i++) {
            c.due("between", x.ask((byte) 0), 0);
            c.due("between", x.ask((byte) 1), 0);
        }
        c.due("between", x.ask((byte) 0), 0);
        c.due("the last one of the longest", x.ask((byte) 1), 41);
        c.due("none", c.put(x, 62, 128), 0);
        c.due("none to ALL", c.put(x, true, 99), 0);
        c.due("two", c.put(x, 62, 0), 2);
        c.due("three", c.put(x, 62, 1), 3);
    }
}
