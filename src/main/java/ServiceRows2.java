/**
 * Services of a controller for a tester. What each call answers is told by the
 * promises of DOC.md; the words in capitals there are used in the comments here.
 */
public final class ServiceRows2 {
    private static final int UNKNOWN_NUMBER = -1;
    private static final int OUTSIDE_RANGE = -2;
    private static final int WRONG_STATE = -3;
    private static final int NO_ROOM = -4;

    private static final int HIGHEST_ID = 65535;
    private static final int MOST_IDENTIFIERS = 40;
    private static final int MOST_LENGTH = 8;
    private static final int MOST_LEVEL = 3;
    private static final int MOST_ROUTINES = 10;
    private static final int MOST_STEPS = 100;
    private static final int MOST_BOUND = 10;
    private static final int MOST_TRANSFER = 200;
    private static final int MOST_BLOCK_OCTETS = 8;
    private static final int MOST_QUESTION = 60;
    /** The longest ANSWER is that of four identifiers read at once: 1 + 4 * (2 + 8). */
    private static final int MOST_ANSWER = 41;

    private static final int FIRST_SESSION = 1;
    private static final int LAST_SESSION = 3;
    private static final long SESSION_TIME = 5000L;
    private static final long LATEST_TIME = 1L << 60;

    private static final int SESSION_SERVICE = 16;
    private static final int RESET_SERVICE = 17;
    private static final int READ_SERVICE = 34;
    private static final int WRITE_SERVICE = 46;
    private static final int CONTROL_SERVICE = 47;
    private static final int ROUTINE_SERVICE = 49;
    private static final int OPEN_SERVICE = 52;
    private static final int BLOCK_SERVICE = 54;
    private static final int CLOSE_SERVICE = 55;
    private static final int PRESENT_SERVICE = 62;

    private static final int PASSED = 0;
    private static final int STEPS_LEFT_TOO_LONG = 16;
    private static final int NO_SUCH_SERVICE = 17;
    private static final int NO_SUCH_FUNCTION = 18;
    private static final int WRONG_LENGTH = 19;
    private static final int NOT_STANDING = 34;
    private static final int WRONG_ORDER = 36;
    private static final int NOT_THERE = 49;
    private static final int LEVEL_TOO_LOW = 51;
    private static final int TRANSFER_OPEN = 112;
    private static final int TOO_MUCH = 113;
    private static final int WRONG_BLOCK = 115;
    private static final int STEPS_LEFT = 120;
    private static final int WRONG_SESSION = 127;

    private static final int REFUSING_HEAD = 127;
    private static final int SERVING_HEAD = 64;

    private final Identifier[] identifiers = new Identifier[MOST_IDENTIFIERS];
    private int identifierCount = 0;
    private final Routine[] routines = new Routine[MOST_ROUTINES];
    private int routineCount = 0;
    private boolean standing = true;
    private boolean quiet = true;
    private int session = FIRST_SESSION;
    private int level = 0;
    private int bound = 0;
    private long time = 0L;
    private long questionTime = 0L;
    private int lastCode = -1;
    private final Question asked = new Question();
    /** The QUESTION that transfer puts, apart from the one that may be under way. */
    private final Question block = new Question();
    private final Answer reply = new Answer();
    private final Transfer moved = new Transfer();

    public ServiceRows2() {
    }

    public int identifier(int id, int length, int session, int level) {
        if (!isWithin(id, 0, HIGHEST_ID) || !isWithin(length, 1, MOST_LENGTH)
                || !isWithin(session, FIRST_SESSION, LAST_SESSION) || !isWithin(level, 0, MOST_LEVEL)) {
            return OUTSIDE_RANGE;
        }
        if (findIdentifier(id) != null) {
            return WRONG_STATE;
        }
        if (!hasRoomForIdentifier()) {
            return NO_ROOM;
        }
        addIdentifier(new Identifier(id, length, session, level, false));
        return identifierCount;
    }

    public int dynamic(int id, int from, int n) {
        Identifier source = findIdentifier(from);
        if (source == null) {
            return UNKNOWN_NUMBER;
        }
        if (!isWithin(id, 0, HIGHEST_ID) || !isWithin(n, 1, source.length)) {
            return OUTSIDE_RANGE;
        }
        Identifier together = findIdentifier(id);
        if (source.isTogether || together != null && !together.isTogether) {
            return WRONG_STATE;
        }
        // Only a new one needs a place among the 40; more octets of an old one do not.
        if (together == null ? !hasRoomForIdentifier() : together.length + n > MOST_LENGTH) {
            return NO_ROOM;
        }
        if (together == null) {
            together = new Identifier(id, 0, FIRST_SESSION, 0, true);
            addIdentifier(together);
        }
        together.append(source, n);
        return together.length;
    }

    public int routine(int id, int steps) {
        if (!isWithin(id, 0, HIGHEST_ID) || !isWithin(steps, 0, MOST_STEPS)) {
            return OUTSIDE_RANGE;
        }
        if (findRoutine(id) != null) {
            return WRONG_STATE;
        }
        if (routineCount >= routines.length) {
            return NO_ROOM;
        }
        routines[routineCount] = new Routine(id, steps);
        routineCount++;
        return routineCount;
    }

    public int condition(int kind, boolean holds) {
        if (kind == 0) {
            standing = holds;
        } else if (kind == 1) {
            quiet = holds;
        } else {
            return UNKNOWN_NUMBER;
        }
        return standing && quiet ? 1 : 0;
    }

    public int rights(int level) {
        if (!isWithin(level, 0, MOST_LEVEL)) {
            return OUTSIDE_RANGE;
        }
        int before = this.level;
        this.level = level;
        return before;
    }

    public int control(int id, int kind, long v) {
        Identifier told = findIdentifier(id);
        if (told == null) {
            return UNKNOWN_NUMBER;
        }
        if (!isWithin(kind, 0, 1)) {
            return OUTSIDE_RANGE;
        }
        if (told.isTogether) {
            return WRONG_STATE;
        }
        if (kind == 0) {
            told.own = v;
        } else {
            told.mayBeWritten = v != 0L;
        }
        return 1;
    }

    public int pending(int n) {
        if (!isWithin(n, 0, MOST_BOUND)) {
            return OUTSIDE_RANGE;
        }
        int before = bound;
        bound = n;
        return before;
    }

    public int ask(byte b) {
        asked.take(b);
        if (!asked.isWhole()) {
            return 0;
        }
        conclude(asked);
        return reply.length;
    }

    public byte answer(int i) throws ArrayIndexOutOfBoundsException {
        if (!reply.has(i)) {
            throw new ArrayIndexOutOfBoundsException("the last answer has no such octet");
        }
        return reply.octetAt(i);
    }

    public int code() {
        return lastCode;
    }

    public int transfer(int c, byte b) {
        int missingBefore = moved.missing;
        block.take((byte) 3);
        block.take((byte) BLOCK_SERVICE);
        block.take((byte) c);
        block.take(b);
        conclude(block);
        if (lastCode != PASSED) {
            return -lastCode;
        }
        return moved.missing < missingBefore ? 1 : 2;
    }

    public int tick(long t) {
        if (t < time || t > LATEST_TIME) {
            return OUTSIDE_RANGE;
        }
        time = t;
        for (int i = 0; i < routines.length; i++) {
            Routine known = routines[i];
            if (known != null) {
                known.step();
            }
        }
        if (session == FIRST_SESSION || t - questionTime < SESSION_TIME) {
            return 0;
        }
        endSession(FIRST_SESSION);
        return 1;
    }

    public long value(int id) {
        Identifier told = findIdentifier(id);
        return told == null ? 0L : told.number();
    }

    private static boolean isWithin(int number, int lowest, int highest) {
        return number >= lowest && number <= highest;
    }

    private Identifier findIdentifier(int id) {
        for (int i = 0; i < identifiers.length; i++) {
            Identifier known = identifiers[i];
            if (known != null && known.id == id) {
                return known;
            }
        }
        return null;
    }

    private boolean hasRoomForIdentifier() {
        return identifierCount < identifiers.length;
    }

    private void addIdentifier(Identifier made) {
        if (hasRoomForIdentifier()) {
            identifiers[identifierCount] = made;
            identifierCount++;
        }
    }

    private Routine findRoutine(int id) {
        for (int i = 0; i < routines.length; i++) {
            Routine known = routines[i];
            if (known != null && known.id == id) {
                return known;
            }
        }
        return null;
    }

    /** The identifier, if there is one and it is HERE; otherwise null. */
    private Identifier findHere(int id) {
        Identifier told = findIdentifier(id);
        return told == null || told.session > session ? null : told;
    }

    private void endSession(int next) {
        for (int i = 0; i < identifiers.length; i++) {
            Identifier known = identifiers[i];
            if (known != null) {
                known.release();
            }
        }
        moved.close();
        level = 0;
        session = next;
    }

    private void conclude(Question question) {
        reply.clear();
        lastCode = serve(question);
        questionTime = time;
        if (lastCode != PASSED) {
            if (!question.isToAll || !isKeptFromAll(lastCode)) {
                reply.put(REFUSING_HEAD);
                reply.put(question.service());
                reply.put(lastCode);
            }
        } else if (question.wantsNoAnswer()) {
            reply.clear();
        }
        question.end();
    }

    private static boolean isKeptFromAll(int code) {
        return code == NO_SUCH_SERVICE || code == NO_SUCH_FUNCTION || code == NOT_THERE || code == WRONG_SESSION;
    }

    /** The code of the first check that fails, with an empty reply; or PASSED, with the ANSWER in the reply. */
    private int serve(Question question) {
        if (question.isEmpty()) {
            return WRONG_LENGTH;
        }
        switch (question.service()) {
            case SESSION_SERVICE:
                return changeSession(question);
            case RESET_SERVICE:
                return reset(question);
            case READ_SERVICE:
                return read(question);
            case WRITE_SERVICE:
                return write(question);
            case CONTROL_SERVICE:
                return takeControl(question);
            case ROUTINE_SERVICE:
                return handleRoutine(question);
            case OPEN_SERVICE:
                return openTransfer(question);
            case BLOCK_SERVICE:
                return takeBlock(question);
            case CLOSE_SERVICE:
                return closeTransfer(question);
            case PRESENT_SERVICE:
                return stayPresent(question);
            default:
                return NO_SUCH_SERVICE;
        }
    }

    private int changeSession(Question question) {
        if (question.size() != 1) {
            return WRONG_LENGTH;
        }
        int next = question.function();
        if (!isWithin(next, FIRST_SESSION, LAST_SESSION)) {
            return NO_SUCH_FUNCTION;
        }
        if (next == LAST_SESSION && !standing) {
            return NOT_STANDING;
        }
        endSession(next);
        beginReply(question);
        reply.put(next);
        return PASSED;
    }

    private int stayPresent(Question question) {
        if (question.size() != 1) {
            return WRONG_LENGTH;
        }
        if (question.function() != 0) {
            return NO_SUCH_FUNCTION;
        }
        beginReply(question);
        reply.put(0);
        return PASSED;
    }

    private int reset(Question question) {
        if (question.size() != 1) {
            return WRONG_LENGTH;
        }
        int function = question.function();
        if (function != 1 && function != 3) {
            return NO_SUCH_FUNCTION;
        }
        if (!standing) {
            return NOT_STANDING;
        }
        endSession(FIRST_SESSION);
        forgetRoutines();
        if (function == 1) {
            clearOwnValues();
        }
        beginReply(question);
        reply.put(function);
        return PASSED;
    }

    private void forgetRoutines() {
        for (int i = 0; i < routines.length; i++) {
            Routine known = routines[i];
            if (known != null) {
                known.forget();
            }
        }
    }

    private void clearOwnValues() {
        for (int i = 0; i < identifiers.length; i++) {
            Identifier known = identifiers[i];
            if (known != null) {
                known.own = 0L;
            }
        }
    }

    private int read(Question question) {
        int size = question.size();
        if (!isWithin(size, 2, 8) || (size & 1) != 0) {
            return WRONG_LENGTH;
        }
        boolean someHere = false;
        boolean someTooHigh = false;
        for (int place = 0; place < size; place += 2) {
            Identifier told = findHere(question.word(place));
            if (told != null) {
                someHere = true;
                someTooHigh = someTooHigh || told.level > level;
            }
        }
        if (!someHere) {
            return NOT_THERE;
        }
        if (someTooHigh) {
            return LEVEL_TOO_LOW;
        }
        beginReply(question);
        for (int place = 0; place < size; place += 2) {
            Identifier told = findHere(question.word(place));
            if (told != null) {
                replyOctetsOf(told);
            }
        }
        return PASSED;
    }

    private void replyOctetsOf(Identifier told) {
        reply.putWord(told.id);
        for (int place = 0; place < told.length; place++) {
            reply.put(told.octetAt(place));
        }
    }

    private int write(Question question) {
        int size = question.size();
        if (size <= 2) {
            return WRONG_LENGTH;
        }
        Identifier told = findHere(question.word(0));
        if (told == null || told.isTogether || !told.mayBeWritten) {
            return NOT_THERE;
        }
        if (size - 2 != told.length) {
            return WRONG_LENGTH;
        }
        if (told.level > level) {
            return LEVEL_TOO_LOW;
        }
        if (!standing) {
            return NOT_STANDING;
        }
        told.own = question.number(2, told.length);
        beginReply(question);
        reply.putWord(told.id);
        return PASSED;
    }

    private int takeControl(Question question) {
        if (session == FIRST_SESSION) {
            return WRONG_SESSION;
        }
        int size = question.size();
        if (size <= 2) {
            return WRONG_LENGTH;
        }
        Identifier told = findHere(question.word(0));
        if (told == null || told.isTogether) {
            return NOT_THERE;
        }
        if (told.level > level) {
            return LEVEL_TOO_LOW;
        }
        int kind = question.octetAt(2);
        if (!isWithin(kind, 0, 3)) {
            return NOT_THERE;
        }
        if (size - 3 != (kind == 3 ? told.length : 0)) {
            return WRONG_LENGTH;
        }
        setControl(told, kind, question);
        beginReply(question);
        reply.putWord(told.id);
        reply.put(kind);
        return PASSED;
    }

    private static void setControl(Identifier told, int kind, Question question) {
        switch (kind) {
            case 0:
                told.release();
                break;
            case 1:
                told.hold(0L);
                break;
            case 2:
                told.hold(told.number());
                break;
            default:
                told.hold(question.number(3, told.length));
                break;
        }
    }

    private int handleRoutine(Question question) {
        if (session == FIRST_SESSION) {
            return WRONG_SESSION;
        }
        if (question.size() != 3) {
            return WRONG_LENGTH;
        }
        int function = question.function();
        if (!isWithin(function, 1, 3)) {
            return NO_SUCH_FUNCTION;
        }
        Routine told = findRoutine(question.word(1));
        if (told == null) {
            return NOT_THERE;
        }
        int failed = applyToRoutine(told, function);
        if (failed != PASSED) {
            return failed;
        }
        beginReply(question);
        reply.put(function);
        reply.putWord(told.id);
        reply.put(told.left);
        return PASSED;
    }

    private int applyToRoutine(Routine told, int function) {
        if (function == 1) {
            return startRoutine(told);
        }
        if (!told.isStarted) {
            return WRONG_ORDER;
        }
        if (function == 2) {
            told.left = 0;
            return PASSED;
        }
        return askResult(told);
    }

    private int startRoutine(Routine told) {
        if (told.left > 0) {
            return WRONG_ORDER;
        }
        if (!standing) {
            return NOT_STANDING;
        }
        told.start();
        return PASSED;
    }

    private int askResult(Routine told) {
        if (told.left == 0) {
            return PASSED;
        }
        if (told.waitsTold >= bound) {
            return STEPS_LEFT_TOO_LONG;
        }
        told.waitsTold++;
        return STEPS_LEFT;
    }

    private int openTransfer(Question question) {
        if (session != LAST_SESSION) {
            return WRONG_SESSION;
        }
        if (question.size() != 2) {
            return WRONG_LENGTH;
        }
        if (moved.isOpen) {
            return TRANSFER_OPEN;
        }
        int size = question.word(0);
        if (!isWithin(size, 1, MOST_TRANSFER)) {
            return NOT_THERE;
        }
        moved.open(size);
        beginReply(question);
        reply.put(MOST_BLOCK_OCTETS);
        return PASSED;
    }

    private int takeBlock(Question question) {
        if (session != LAST_SESSION) {
            return WRONG_SESSION;
        }
        int octets = question.size() - 1;
        if (!isWithin(octets, 1, MOST_BLOCK_OCTETS)) {
            return WRONG_LENGTH;
        }
        if (!moved.isOpen) {
            return WRONG_ORDER;
        }
        int counter = question.octetAt(0);
        if (!moved.isBlockBefore(counter)) {
            if (counter != moved.nextBlock()) {
                return WRONG_BLOCK;
            }
            if (octets > moved.missing) {
                return TOO_MUCH;
            }
            moved.add(question, octets);
        }
        beginReply(question);
        reply.put(counter);
        return PASSED;
    }

    private int closeTransfer(Question question) {
        if (session != LAST_SESSION) {
            return WRONG_SESSION;
        }
        if (question.size() != 0) {
            return WRONG_LENGTH;
        }
        if (!moved.isOpen || moved.missing > 0) {
            return WRONG_ORDER;
        }
        int sum = moved.sum;
        moved.close();
        beginReply(question);
        reply.putWord(sum);
        return PASSED;
    }

    private void beginReply(Question question) {
        reply.put(question.service() + SERVING_HEAD);
    }

    /** An identifier, an ordinary one or a PUT TOGETHER one. */
    private static final class Identifier {
        final int id;
        final int session;
        final int level;
        final boolean isTogether;
        int length;
        boolean mayBeWritten = true;
        long own = 0L;
        boolean isHeld = false;
        long held = 0L;
        /** For each octet of a PUT TOGETHER one the ordinary identifier it belongs to, and its place there. */
        final Identifier[] sources;
        final int[] places;

        Identifier(int id, int length, int session, int level, boolean isTogether) {
            this.id = id;
            this.length = length;
            this.session = session;
            this.level = level;
            this.isTogether = isTogether;
            this.sources = new Identifier[isTogether ? MOST_LENGTH : 0];
            this.places = new int[isTogether ? MOST_LENGTH : 0];
        }

        void append(Identifier source, int octets) {
            for (int place = 0; place < octets; place++) {
                if (length >= 0 && length < sources.length && length < places.length) {
                    sources[length] = source;
                    places[length] = place;
                    length++;
                }
            }
        }

        void hold(long value) {
            isHeld = true;
            held = value;
        }

        void release() {
            isHeld = false;
        }

        /** An octet of the VALUE, as 0 .. 255; place 0 is the highest one. */
        int octetAt(int place) {
            if (!isTogether) {
                return ordinaryOctetAt(place);
            }
            if (place < 0 || place >= sources.length || place >= places.length) {
                return 0;
            }
            Identifier source = sources[place];
            return source == null ? 0 : source.ordinaryOctetAt(places[place]);
        }

        private int ordinaryOctetAt(int place) {
            long shown = isHeld ? held : own;
            return (int) (shown >>> 8 * (length - 1 - place)) & 255;
        }

        long number() {
            long sum = 0L;
            for (int place = 0; place < length; place++) {
                sum = sum << 8 | octetAt(place);
            }
            return sum;
        }
    }

    private static final class Routine {
        final int id;
        final int steps;
        boolean isStarted = false;
        int left = 0;
        int waitsTold = 0;

        Routine(int id, int steps) {
            this.id = id;
            this.steps = steps;
        }

        void start() {
            isStarted = true;
            left = steps;
            waitsTold = 0;
        }

        void step() {
            if (isStarted && left > 0) {
                left--;
            }
        }

        /** No STEPS are LEFT of a routine that is not STARTED: otherwise none could ever start it again. */
        void forget() {
            isStarted = false;
            left = 0;
        }
    }

    private static final class Transfer {
        boolean isOpen = false;
        int missing = 0;
        int sum = 0;
        /** Each block brings an octet or more, so the blocks of one TRANSFER stay far below 256. */
        private int blocks = 0;

        void open(int size) {
            isOpen = true;
            missing = size;
            sum = 0;
            blocks = 0;
        }

        void close() {
            isOpen = false;
            missing = 0;
        }

        boolean isBlockBefore(int counter) {
            return blocks > 0 && counter == (blocks & 255);
        }

        int nextBlock() {
            return blocks + 1 & 255;
        }

        void add(Question question, int octets) {
            for (int place = 1; place <= octets; place++) {
                sum = sum + question.octetAt(place) & 65535;
            }
            missing -= octets;
            blocks++;
        }
    }

    private static final class Question {
        private final byte[] octets = new byte[MOST_QUESTION];
        private boolean isBegun = false;
        private int due = 0;
        private int count = 0;
        boolean isToAll = false;

        void take(byte b) {
            if (!isBegun) {
                isBegun = true;
                isToAll = b < 0;
                due = Math.min(b & 127, MOST_QUESTION);
                count = 0;
            } else if (count >= 0 && count < octets.length) {
                octets[count] = b;
                count++;
            }
        }

        boolean isWhole() {
            return isBegun && count >= due;
        }

        void end() {
            isBegun = false;
        }

        boolean isEmpty() {
            return count == 0;
        }

        int service() {
            return count == 0 ? 0 : octets[0] & 255;
        }

        /** How many octets stand behind the SERVICE. */
        int size() {
            return count == 0 ? 0 : count - 1;
        }

        /** An octet behind the SERVICE, as 0 .. 255; place 0 is the first one there. */
        int octetAt(int place) {
            int index = place + 1;
            return index < 1 || index >= count || index >= octets.length ? 0 : octets[index] & 255;
        }

        int word(int place) {
            return octetAt(place) << 8 | octetAt(place + 1);
        }

        long number(int place, int length) {
            long sum = 0L;
            for (int i = 0; i < length; i++) {
                sum = sum << 8 | octetAt(place + i);
            }
            return sum;
        }

        int function() {
            return octetAt(0) & 127;
        }

        boolean wantsNoAnswer() {
            int service = service();
            return octetAt(0) > 127 && (service == SESSION_SERVICE || service == RESET_SERVICE
                    || service == ROUTINE_SERVICE || service == PRESENT_SERVICE);
        }
    }

    private static final class Answer {
        private final byte[] octets = new byte[MOST_ANSWER];
        int length = 0;

        void clear() {
            length = 0;
        }

        void put(int octet) {
            if (length >= 0 && length < octets.length) {
                octets[length] = (byte) octet;
                length++;
            }
        }

        void putWord(int word) {
            put(word >> 8);
            put(word);
        }

        boolean has(int place) {
            return place >= 0 && place < length && place < octets.length;
        }

        byte octetAt(int place) {
            return has(place) ? octets[place] : 0;
        }
    }
}
