import java.util.function.Consumer;

/**
 * Two objects made by the same calls, of which one has one call more: if that call changes nothing,
 * nothing that can be seen of the two differs. Looking changes an object, so each look has a new pair.
 */
final class Twins {
    /** The look at the last ANSWER and code, and at a QUESTION under way. */
    static final int LAST = 0;
    static final int LOOKS = 9;
    private static final int[] IDS = {0, 1, 2, 3, 9, 10, 77, 65535};

    private Twins() {
    }

    /** A difference in one of the looks from this one on is told. */
    static void same(Checks c, String what, int firstLook, Consumer<ServiceRows2> making,
            Consumer<ServiceRows2> one, Consumer<ServiceRows2> other) {
        for (int look = firstLook; look < LOOKS; look++) {
            c.same(what + ", look " + look, seen(look, making, one), seen(look, making, other));
        }
    }

    private static String seen(int look, Consumer<ServiceRows2> making, Consumer<ServiceRows2> call) {
        ServiceRows2 x = new ServiceRows2();
        making.accept(x);
        call.accept(x);
        StringBuilder all = new StringBuilder();
        switch (look) {
            case LAST -> last(x, all);
            case 1 -> settings(x, all);
            case 2 -> transfer(x, all);
            case 3 -> routines(x, all);
            case 4 -> session(x, all);
            case 5 -> times(x, all);
            case 6 -> counts(x, all);
            case 7 -> writing(x, all);
            default -> ownValues(x, all);
        }
        return all.toString();
    }

    /** An object of which every part of the state is other than at first; its last QUESTION came at 100, its time is 200. */
    static void makeRich(ServiceRows2 x, int session) {
        x.identifier(1, 2, 1, 0);
        x.identifier(2, 8, 2, 1);
        x.identifier(3, 1, 3, 3);
        x.control(1, 0, 0x0102);
        x.control(2, 0, -7);
        x.control(3, 0, 9);
        x.control(3, 1, 0);
        x.dynamic(9, 1, 2);
        x.dynamic(10, 2, 8);
        x.routine(1, 5);
        x.routine(2, 0);
        x.routine(3, 7);
        x.pending(3);
        x.tick(100);
        put(x, 16, 2);
        put(x, 49, 1, 0, 1);
        put(x, 49, 1, 0, 2);
        put(x, 49, 3, 0, 1);
        put(x, 16, session);
        x.rights(2);
        put(x, 47, 0, 1, 3, 5, 6);
        put(x, 52, 0, 4);
        put(x, 54, 1, 3);
        x.condition(1, false);
        x.tick(200);
    }

    /** As many identifiers and routines as there can be. */
    static void fill(ServiceRows2 x) {
        for (int i = 0; i < 40; i++) {
            x.identifier(200 + i, 1, 1, 0);
            x.routine(200 + i, 1);
        }
    }

    /** Compares nothing: behind a QUESTION under way the octets may mean anything, but to both the same. */
    private static int put(ServiceRows2 x, int... octets) {
        int answered = x.ask((byte) octets.length);
        for (int octet : octets) {
            answered = x.ask((byte) octet);
        }
        return answered;
    }

    private static void question(ServiceRows2 x, StringBuilder all, int... octets) {
        int count = put(x, octets);
        all.append(count).append('/').append(x.code());
        for (int i = 0; i < count; i++) {
            all.append(' ').append(x.answer(i));
        }
        all.append("; ");
    }

    private static void last(ServiceRows2 x, StringBuilder all) {
        all.append(x.code()).append(':');
        for (int i = 0; i <= 41; i++) {
            if (Checks.throwsAt(x, i) == 0) {
                all.append(' ').append(x.answer(i));
            }
        }
        for (int i = 0; i < 61; i++) {
            all.append(' ').append(x.ask((byte) 99)).append('/').append(x.code());
        }
    }

    private static void settings(ServiceRows2 x, StringBuilder all) {
        for (int id : IDS) {
            all.append(x.value(id)).append(' ');
        }
        all.append(x.rights(0)).append(' ').append(x.pending(0)).append(' ').append(x.condition(0, true));
    }

    private static void transfer(ServiceRows2 x, StringBuilder all) {
        all.append(x.condition(1, true)).append(' ');
        question(x, all, 52, 0, 9);
        for (int block = 0; block < 12; block++) {
            all.append(x.transfer(block, (byte) 1)).append(' ');
        }
        question(x, all, 55);
    }

    private static void routines(ServiceRows2 x, StringBuilder all) {
        question(x, all, 16, 2);
        for (int i = 0; i < 5; i++) {
            for (int routine = 1; routine <= 4; routine++) {
                question(x, all, 49, 3, 0, routine);
            }
        }
        for (int i = 0; i < 6; i++) {
            all.append(x.tick(4000)).append(' ');
            question(x, all, 49, 3, 0, 1);
        }
        question(x, all, 49, 1, 0, 3);
    }

    private static void session(ServiceRows2 x, StringBuilder all) {
        question(x, all, 49);
        question(x, all, 52);
        question(x, all, 34, 0, 1, 0, 9, 0, 10);
        question(x, all, 34, 0, 2);
        question(x, all, 34, 0, 3);
    }

    private static void times(ServiceRows2 x, StringBuilder all) {
        long[] times = {199, 200, 5099, 5100, 5199, 5200, 20000};
        for (long time : times) {
            all.append(x.tick(time)).append(' ');
        }
    }

    private static void counts(ServiceRows2 x, StringBuilder all) {
        all.append(x.dynamic(9, 1, 1)).append(' ').append(x.dynamic(10, 1, 1)).append(' ');
        all.append(x.value(9)).append(' ').append(x.value(10)).append(' ');
        all.append(x.identifier(500, 1, 1, 0)).append(' ').append(x.routine(500, 1)).append(' ');
        for (int id : IDS) {
            all.append(x.identifier(id, 1, 1, 0)).append(' ').append(x.routine(id, 1)).append(' ');
        }
    }

    private static void writing(ServiceRows2 x, StringBuilder all) {
        question(x, all, 16, 3);
        x.rights(3);
        question(x, all, 46, 0, 1, 1, 1);
        question(x, all, 46, 0, 2, 1, 2, 3, 4, 5, 6, 7, 8);
        question(x, all, 46, 0, 3, 1);
        for (int id : IDS) {
            all.append(x.value(id)).append(' ');
        }
    }

    private static void ownValues(ServiceRows2 x, StringBuilder all) {
        question(x, all, 16, 1);
        for (int id : IDS) {
            all.append(x.value(id)).append(' ');
        }
    }
}
