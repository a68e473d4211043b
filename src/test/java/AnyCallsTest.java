import java.util.Random;

/**
 * Long runs of calls with any arguments: nothing but answer throws, it throws by a written
 * throw and just outside the ANSWER, and what calls answer fits together.
 */
public final class AnyCallsTest {
    private static final int RUNS = 4000;
    /** An object is used for 512 calls, and a QUESTION with what is asked about it takes at most 70. */
    private static final int CALLS = 512 - 70;
    private static final int[] SERVICES = {16, 17, 34, 46, 47, 49, 52, 54, 55, 62};
    private static final int[] FUNCTIONS = {1, 2, 3, 0, 129, 130, 131, 128, 255};

    public static void main(String[] args) {
        Checks c = new Checks();
        Random random = new Random(20261115L);
        for (int run = 0; run < RUNS; run++) {
            ServiceRows2 x = new ServiceRows2();
            for (int calls = 0; calls < CALLS; ) {
                calls += call(c, x, random);
            }
        }
        c.end();
    }

    /** Some call, or a QUESTION: how many calls that were. */
    private static int call(Checks c, ServiceRows2 x, Random random) {
        switch (random.nextInt(16)) {
            case 0 -> among(c, "identifier", x.identifier(number(random), random.nextInt(10), random.nextInt(5),
                    random.nextInt(5)), -4, 40, 0, -1);
            case 1 -> among(c, "dynamic", x.dynamic(number(random), number(random), random.nextInt(10)), -4, 8, 0);
            case 2 -> among(c, "routine", x.routine(number(random), number(random)), -4, 10, 0, -1);
            case 3 -> among(c, "condition", x.condition(random.nextInt(4) - 1, random.nextInt(4) != 0), -1, 1);
            case 4 -> among(c, "rights", x.rights(random.nextInt(6) - 1), -2, 3, -1);
            case 5 -> among(c, "control", x.control(number(random), random.nextInt(4) - 1, random.nextLong()), -3, 1, 0);
            case 6 -> among(c, "pending", x.pending(random.nextInt(13) - 1), -2, 10, -1);
            case 7 -> among(c, "code", x.code(), -1, 127);
            case 8 -> among(c, "transfer", x.transfer(number(random), (byte) random.nextInt()), -127, 2, 0);
            case 9 -> among(c, "tick", x.tick(random.nextInt(9) == 0 ? random.nextLong() : random.nextInt(9000)), -2, 1, -1);
            case 10 -> throwsOutside(c, x, random.nextInt(), 41);
            case 11 -> x.value(number(random));
            default -> {
                return question(c, x, random);
            }
        }
        return 1;
    }

    private static int number(Random random) {
        int kind = random.nextInt(20);
        return kind == 0 ? random.nextInt() : kind == 1 ? 65535 + random.nextInt(2) : random.nextInt(14) - 1;
    }

    private static void among(Checks c, String what, int got, int lowest, int highest, int... never) {
        c.due(what + " answered " + got + ", within its answers", got >= lowest && got <= highest ? 1 : 0, 1);
        for (int no : never) {
            c.due(what + " answered " + no, got == no ? 1 : 0, 0);
        }
    }

    private static int question(Checks c, ServiceRows2 x, Random random) {
        int n = random.nextInt(8) == 0 ? random.nextInt(128) : random.nextInt(12);
        int octets = 0;
        int calls = 1;
        x.ask((byte) (n + (random.nextInt(6) == 0 ? 128 : 0)));
        for (int i = 0; i < Math.min(n, 60) - random.nextInt(9) / 8; i++) {
            int octet = random.nextInt(14);
            if (i == 0 && random.nextInt(20) != 0) {
                octet = SERVICES[random.nextInt(SERVICES.length)];
            } else if (i == 1 && random.nextInt(2) == 0) {
                octet = FUNCTIONS[random.nextInt(FUNCTIONS.length)];
            } else if (random.nextInt(3) == 0) {
                octet = random.nextInt(16) == 0 ? random.nextInt(256) : 0;
            }
            octets = x.ask((byte) octet);
            calls++;
        }
        among(c, "ask", octets, 0, 41, 1);
        if (octets > 0) {
            calls += 5;
            c.due("the last octet is there", Checks.throwsAt(x, octets - 1), 0);
            throwsOutside(c, x, octets, octets);
            c.due("the head tells a failed check", x.code() != 0 ? 1 : 0, x.answer(0) == 127 ? 1 : 0);
            c.due("an answer of a failed check", x.code() == 0 || octets == 3 ? 1 : 0, 1);
        }
        return calls;
    }

    private static void throwsOutside(Checks c, ServiceRows2 x, int i, int behind) {
        int thrown = Checks.throwsAt(x, i);
        c.due("answer(" + i + ") by a written throw", thrown == 2 ? 1 : 0, 0);
        c.due("answer(" + i + ") is inside", thrown == 1 || i >= 0 && i < behind ? 1 : 0, 1);
    }
}
