/** Compares answers with those that are due, and puts whole QUESTIONS for the tests. */
final class Checks {
    private int wrong = 0;
    private int made = 0;
    private int sentences = 0;
    private int madeOfSentence = 0;
    private String words = "";

    /** What follows, up to the next sentence, is the test of these words of DOC.md. */
    void sentence(String words) {
        endSentence();
        this.words = words;
        sentences++;
        madeOfSentence = 0;
        if (!Document.says(words)) {
            wrong++;
            System.out.println("\"" + words + "\": DOC.md does not say this");
        }
    }

    /** Of a sentence that has several sides, one. */
    void sentence(String words, String side) {
        sentence(words);
        this.words = words + " (" + side + ")";
    }

    /** A sentence without a single comparison would pass whatever the class does. */
    private void endSentence() {
        if (sentences > 0 && madeOfSentence == 0) {
            wrong++;
            System.out.println("\"" + words + "\": nothing was compared");
        }
    }

    void due(String what, long got, long want) {
        made++;
        madeOfSentence++;
        if (got != want) {
            wrong++;
            System.out.println("\"" + words + "\": " + what + " answered " + got + ", due is " + want);
        }
    }

    void same(String what, String got, String want) {
        due(what + " (" + got + " for " + want + ")", got.equals(want) ? 1 : 0, 1);
    }

    /** Puts a QUESTION: what the call with its last octet answered. */
    int put(ServiceRows2 x, boolean toAll, int... octets) {
        int answered = x.ask((byte) (octets.length | (toAll ? 128 : 0)));
        for (int i = 0; i < octets.length; i++) {
            due("ask before octet " + i, answered, 0);
            answered = x.ask((byte) octets[i]);
        }
        return answered;
    }

    int put(ServiceRows2 x, int... octets) {
        return put(x, false, octets);
    }

    /** The last ANSWER is just this: every octet, and none before and behind. */
    void reads(String what, ServiceRows2 x, int... want) {
        for (int i = 0; i < want.length; i++) {
            due(what + ": answer(" + i + ") throws", throwsAt(x, i), 0);
            if (throwsAt(x, i) == 0) {
                due(what + ": answer(" + i + ")", x.answer(i) & 255, want[i] & 255);
            }
        }
        due(what + ": answer(-1) throws", throwsAt(x, -1), 1);
        due(what + ": answer(" + want.length + ") throws", throwsAt(x, want.length), 1);
    }

    /** 1 if the octet's exception is the document's, by a written throw; 2 if it is any other; 0 for none. */
    static int throwsAt(ServiceRows2 x, int i) {
        try {
            x.answer(i);
            return 0;
        } catch (RuntimeException e) {
            return e.getClass() == ArrayIndexOutOfBoundsException.class && !isOfTheMachine(e) ? 1 : 2;
        }
    }

    /** The machine's own text: "Index 5 out of bounds for length 3". */
    private static boolean isOfTheMachine(RuntimeException e) {
        return e.getMessage() == null || e.getMessage().startsWith("Index ");
    }

    /** A QUESTION that no check refuses, with its ANSWER. */
    void serves(String what, ServiceRows2 x, int[] question, int... want) {
        due(what + ": octets", put(x, question), want.length);
        due(what + ": code", x.code(), 0);
        reads(what, x, want);
    }

    /** A QUESTION that a check refuses, with the ANSWER that tells its code. */
    void refuses(String what, ServiceRows2 x, int code, int... question) {
        due(what + ": octets", put(x, question), 3);
        due(what + ": code", x.code(), code);
        reads(what, x, 127, question.length == 0 ? 0 : question[0], code);
    }

    void refusesToAll(String what, ServiceRows2 x, int code, int... question) {
        due(what + ": octets", put(x, true, question), 3);
        due(what + ": code", x.code(), code);
        reads(what, x, 127, question.length == 0 ? 0 : question[0], code);
    }

    /** A QUESTION without an ANSWER; its code is 0 if no check refused it. */
    void isSilent(String what, ServiceRows2 x, boolean toAll, int code, int... question) {
        due(what + ": octets", put(x, toAll, question), 0);
        due(what + ": code", x.code(), code);
        reads(what, x);
    }

    /** A QUESTION of which only the code matters. */
    void codes(String what, ServiceRows2 x, int code, int... question) {
        put(x, question);
        due(what + ": code", x.code(), code);
    }

    static int[] q(int... octets) {
        return octets;
    }

    /** A new object whose present SESSION is this one. */
    static ServiceRows2 inSession(int session) {
        ServiceRows2 x = new ServiceRows2();
        new Checks().put(x, 16, session);
        return x;
    }

    void end() {
        endSentence();
        System.out.println(sentences + " sentences: " + (made - wrong) + " answers as due, " + wrong + " not");
        if (wrong != 0 || made == 0) {
            System.exit(1);
        }
    }
}
