import java.util.Arrays;

/** A bridge between two buses, with the targets, memories and tags of both sides. */
public final class BusBridge {
    /** Returned if there is no result. */
    public static final int NONE = -1;

    private static final int SIDES = 2;
    private static final int KINDS = 4;
    private static final int POSTED_WRITE = 0;
    private static final int READ = 1;
    private static final int CONFIGURATION_WRITE = 2;
    private static final int COMPLETION = 3;

    private static final int ADDRESSES = 16;
    private static final int MOST_WORDS = 4;
    private static final int MOST_TAGS = 8;
    private static final int MOST_BYTES = 600;
    private static final int BYTES_OF_APPEND = 20;
    private static final int MOST_LATENCY = 50;
    private static final int MOST_TICKS_OF_RUN = 300;
    private static final int LAST_TICK = 9999;
    private static final int LONGEST_PREDICTION = 500;
    /** A tick that no run and no prediction reaches. */
    private static final int NEVER = 1000000;
    private static final int CHANGES_KEPT = 10;
    private static final int SLOTS = 2;

    private static final int FREE = 0;
    private static final int PENDING = 1;
    private static final int COMPLETE = 2;

    // The input and the bridge that it described.
    private final byte[] input = new byte[MOST_BYTES];
    private int inputLength;
    private int errorAt;
    private final BridgeText bridgeText = new BridgeText();
    private Plan plan = new Plan();
    private Plan sparePlan = new Plan();

    // The situation, and the copies that undo, snapshots and predictions need.
    private final Situation situation = new Situation();
    private final Situation forecast = new Situation();
    private final History history = new History();
    private final Situation snapshot0 = new Situation();
    private final Situation snapshot1 = new Situation();
    private boolean snapshot0Saved;
    private boolean snapshot1Saved;

    public BusBridge() {
        errorAt = NONE;
        plan.setDefaults();
        situation.start(plan);
    }

    // ---- bridge

    public int append(int a, int b, int c, int d, int e) {
        if (inputLength + BYTES_OF_APPEND > MOST_BYTES) {
            return NONE;
        }
        appendBytes(a);
        appendBytes(b);
        appendBytes(c);
        appendBytes(d);
        appendBytes(e);
        return inputLength;
    }

    private void appendBytes(int four) {
        for (int shift = 24; shift >= 0; shift -= 8) {
            if (inputLength >= 0 && inputLength < input.length) {
                input[inputLength] = (byte) (four >>> shift);
                inputLength++;
            }
        }
    }

    public int parse(int length) throws IllegalArgumentException {
        if (length < 0 || length > inputLength) {
            throw new IllegalArgumentException("no such length");
        }
        inputLength = 0;
        int error = bridgeText.describe(sparePlan, input, length);
        if (error != BridgeText.NO_ERROR) {
            errorAt = bridgeText.errorPlace;
            return error;
        }
        errorAt = NONE;
        replacePlan();
        return error;
    }

    private void replacePlan() {
        Plan old = plan;
        plan = sparePlan;
        sparePlan = old;
        situation.start(plan);
        history.forget();
        snapshot0Saved = false;
        snapshot1Saved = false;
    }

    public int errorPosition() {
        return errorAt;
    }

    public int tick() {
        return situation.now;
    }

    // ---- the table

    public boolean mayPass(int later, int earlier, boolean relaxed) throws IndexOutOfBoundsException {
        checkKind(later);
        checkKind(earlier);
        return !hasBit(plan.blockingKinds(later, relaxed), earlier);
    }

    public boolean isSafe() {
        int requests = 1 << READ | 1 << CONFIGURATION_WRITE;
        boolean tableIsSafe = (plan.blockingKinds(POSTED_WRITE, false) & requests) == 0
                && (plan.blockingKinds(COMPLETION, false) & requests) == 0;
        boolean creditsAreSafe = true;
        for (int side = 0; side < SIDES; side++) {
            creditsAreSafe = creditsAreSafe && plan.creditsOf(side, POSTED_WRITE) >= 1
                    && plan.creditsOf(side, COMPLETION) >= 1;
        }
        return tableIsSafe && creditsAreSafe;
    }

    public boolean holds(int buffer, int kind) throws IndexOutOfBoundsException {
        checkKind(buffer);
        checkKind(kind);
        return buffer == kind;
    }

    // ---- what waits

    public int waiting(int side) throws IndexOutOfBoundsException {
        checkSide(side);
        return situation.portOf(side).queue.size;
    }

    public int kindAt(int side, int position) throws IndexOutOfBoundsException {
        checkPosition(side, position);
        return situation.portOf(side).queue.get(position, Line.KIND);
    }

    public int tagAt(int side, int position) throws IndexOutOfBoundsException {
        checkPosition(side, position);
        return situation.portOf(side).queue.get(position, Line.TAG);
    }

    public int blockers(int side, int position) throws IndexOutOfBoundsException {
        checkPosition(side, position);
        Line queue = situation.portOf(side).queue;
        int blocking = plan.blockingKinds(queue.get(position, Line.KIND), queue.isRelaxed(position));
        int positions = 0;
        for (int earlier = 0; earlier < position; earlier++) {
            if (hasBit(blocking, queue.get(earlier, Line.KIND))) {
                positions |= 1 << earlier;
            }
        }
        return positions;
    }

    public int next(int side) throws IndexOutOfBoundsException {
        checkSide(side);
        return situation.firstReady(plan, side);
    }

    // ---- targets, memory and tags

    public int held(int side, int kind) throws IndexOutOfBoundsException {
        checkSide(side);
        checkKind(kind);
        return situation.portOf(side).work.countOf(kind);
    }

    public int word(int side, int address) throws IndexOutOfBoundsException {
        checkSide(side);
        if (address < 0 || address >= ADDRESSES) {
            throw new IndexOutOfBoundsException("no such address");
        }
        return situation.portOf(side).memoryAt(address);
    }

    public int tagState(int side, int tag) throws IndexOutOfBoundsException {
        checkTag(side, tag);
        return situation.portOf(side).tags.stateOf(tag);
    }

    public int stored(int side, int tag) throws IndexOutOfBoundsException {
        checkTag(side, tag);
        return situation.portOf(side).tags.storedWords(tag);
    }

    public int data(int side, int tag, int index) throws IndexOutOfBoundsException, IllegalStateException {
        checkTag(side, tag);
        Tags tags = situation.portOf(side).tags;
        if (!tags.hasWord(tag, index)) {
            throw new IllegalStateException("this word has not been stored");
        }
        return tags.wordOf(tag, index);
    }

    // ---- figures

    public int forwarded(int side) throws IndexOutOfBoundsException {
        checkSide(side);
        return situation.portOf(side).forwardedCount;
    }

    public int passings(int side) throws IndexOutOfBoundsException {
        checkSide(side);
        return situation.portOf(side).passedCount;
    }

    public double utilisation(int side) throws IndexOutOfBoundsException {
        checkSide(side);
        if (situation.now <= 0) {
            return 0.0;
        }
        // A side forwards at most one transaction in a tick, so their number is that of the ticks.
        return (double) situation.portOf(side).forwardedCount / (double) situation.now;
    }

    public float averageWait(int side) throws IndexOutOfBoundsException {
        checkSide(side);
        return waitOf(situation.portOf(side));
    }

    public int ratioBits() {
        float divisor = waitOf(situation.portOf(1));
        if (divisor == 0.0f) {
            return 0;
        }
        return bitsOf(waitOf(situation.portOf(0)) / divisor);
    }

    private static float waitOf(Port port) {
        if (port.forwardedCount <= 0) {
            return 0.0f;
        }
        return (float) port.waitedTicks / (float) port.forwardedCount;
    }

    /** The bits of a float that is 0 or normal and positive; all quotients of waits are. */
    private static int bitsOf(float value) {
        if (!(value > 0.0f)) {
            return 0;
        }
        float significand = value;
        int exponent = 0;
        for (int i = 0; i < 128 && significand >= 2.0f; i++) {
            significand = significand / 2.0f;
            exponent++;
        }
        for (int i = 0; i < 128 && significand < 1.0f; i++) {
            significand = significand * 2.0f;
            exponent--;
        }
        int fraction = (int) ((significand - 1.0f) * 8388608.0f);
        return (exponent + 127) << 23 | fraction;
    }

    // ---- predictions: nothing changes by them

    public int ticksToRest() {
        // The bridge rests after the last tick that moves something; what is accepted in a tick is
        // worked on at most so many ticks later, so a longer pause never ends.
        int longestPause = MOST_LATENCY + 1;
        int ticks = 0;
        int rest = 0;
        forecast.copyFrom(situation);
        int mostTicks = LONGEST_PREDICTION + longestPause;
        for (int i = 0; i < mostTicks && rest <= LONGEST_PREDICTION && ticks - rest < longestPause; i++) {
            ticks += forecast.advance(plan, longestPause);
            if (forecast.moved) {
                rest = ticks;
            }
        }
        return rest <= LONGEST_PREDICTION ? rest : NONE;
    }

    public boolean isStuck() {
        // A prediction leaves its last situation in forecast.
        return ticksToRest() != NONE && !forecast.isEmpty();
    }

    public int completeTick(int side, int tag) throws IndexOutOfBoundsException {
        checkTag(side, tag);
        Tags tags = forecast.portOf(side).tags;
        forecast.copyFrom(situation);
        int ticks = 0;
        for (int i = 0; i < LONGEST_PREDICTION && ticks < LONGEST_PREDICTION && tags.stateOf(tag) == PENDING; i++) {
            ticks += forecast.advance(plan, LONGEST_PREDICTION - ticks);
        }
        return tags.stateOf(tag) == COMPLETE ? forecast.now : NONE;
    }

    // ---- changes

    public int run(int ticks) throws IllegalArgumentException, IllegalStateException {
        if (ticks < 1 || ticks > MOST_TICKS_OF_RUN) {
            throw new IllegalArgumentException("1 to 300 ticks");
        }
        if (situation.now + ticks > LAST_TICK) {
            throw new IllegalStateException("the last tick is 9999");
        }
        history.remember(situation);
        int before = situation.forwardedInAll();
        int done = 0;
        for (int i = 0; i < ticks && done < ticks; i++) {
            done += situation.advance(plan, ticks - done);
        }
        return situation.forwardedInAll() - before;
    }

    public int post(int side, int address, int words, int value, boolean relaxed)
            throws IndexOutOfBoundsException, IllegalArgumentException, IllegalStateException {
        checkSide(side);
        checkRange(address, words);
        checkRoom(side, POSTED_WRITE);
        history.remember(situation);
        Line queue = situation.portOf(side).queue;
        int position = queue.open(POSTED_WRITE, NONE, relaxed, address, words, situation.now);
        queue.putValues(position, value);
        return queue.size;
    }

    public int read(int side, int address, int words, boolean relaxed)
            throws IndexOutOfBoundsException, IllegalArgumentException, IllegalStateException {
        checkSide(side);
        checkRange(address, words);
        checkRoom(side, READ);
        int tag = findFreeTag(side);
        history.remember(situation);
        Port port = situation.portOf(side);
        port.tags.begin(tag, words);
        port.queue.open(READ, tag, relaxed, address, words, situation.now);
        return tag;
    }

    public int configure(int side, int address, int value, boolean relaxed)
            throws IndexOutOfBoundsException, IllegalArgumentException, IllegalStateException {
        checkSide(side);
        checkRange(address, 1);
        checkRoom(side, CONFIGURATION_WRITE);
        int tag = findFreeTag(side);
        history.remember(situation);
        Port port = situation.portOf(side);
        port.tags.begin(tag, 0);
        int position = port.queue.open(CONFIGURATION_WRITE, tag, relaxed, address, 1, situation.now);
        port.queue.putValues(position, value);
        return tag;
    }

    public int release(int side, int tag) throws IndexOutOfBoundsException, IllegalStateException {
        checkTag(side, tag);
        Tags tags = situation.portOf(side).tags;
        if (tags.stateOf(tag) != COMPLETE) {
            throw new IllegalStateException("the tag is not complete");
        }
        history.remember(situation);
        int words = tags.storedWords(tag);
        tags.free(tag);
        return words;
    }

    // ---- undo and snapshots

    public int undo() {
        return history.takeBack(situation);
    }

    public boolean saveSnapshot(int slot) throws IndexOutOfBoundsException {
        checkSlot(slot);
        boolean earlier = isSaved(slot);
        if (slot == 0) {
            snapshot0.copyFrom(situation);
            snapshot0Saved = true;
        } else {
            snapshot1.copyFrom(situation);
            snapshot1Saved = true;
        }
        return earlier;
    }

    public int restoreSnapshot(int slot) throws IndexOutOfBoundsException, IllegalStateException {
        checkSlot(slot);
        if (!isSaved(slot)) {
            throw new IllegalStateException("the slot is empty");
        }
        situation.copyFrom(slot == 0 ? snapshot0 : snapshot1);
        history.forget();
        return situation.now;
    }

    private boolean isSaved(int slot) {
        return slot == 0 ? snapshot0Saved : snapshot1Saved;
    }

    // ---- what the methods check before anything changes

    private static void checkSide(int side) {
        if (side < 0 || side >= SIDES) {
            throw new IndexOutOfBoundsException("no such side");
        }
    }

    private static void checkKind(int kind) {
        if (kind < 0 || kind >= KINDS) {
            throw new IndexOutOfBoundsException("no such kind");
        }
    }

    private static void checkSlot(int slot) {
        if (slot < 0 || slot >= SLOTS) {
            throw new IndexOutOfBoundsException("no such slot");
        }
    }

    private void checkPosition(int side, int position) {
        checkSide(side);
        if (position < 0 || position >= situation.portOf(side).queue.size) {
            throw new IndexOutOfBoundsException("no such position");
        }
    }

    private void checkTag(int side, int tag) {
        checkSide(side);
        if (tag < 0 || tag >= plan.tagCount) {
            throw new IndexOutOfBoundsException("no such tag");
        }
    }

    private static void checkRange(int address, int words) {
        if (address < 0 || address >= ADDRESSES) {
            throw new IllegalArgumentException("no such address");
        }
        if (words < 1 || words > MOST_WORDS || address + words > ADDRESSES) {
            throw new IllegalArgumentException("no such number of words");
        }
    }

    private void checkRoom(int side, int kind) {
        if (situation.portOf(side).queue.countOf(kind) >= plan.sizeOf(side, kind)) {
            throw new IllegalStateException("no room in the buffer");
        }
    }

    private int findFreeTag(int side) {
        int tag = situation.portOf(side).tags.lowestFree(plan.tagCount);
        if (tag == NONE) {
            throw new IllegalStateException("no free tag");
        }
        return tag;
    }

    private static boolean hasBit(int set, int bit) {
        return (set >> bit & 1) == 1;
    }

    private static int cellOf(int[] row, int index) {
        return index >= 0 && index < row.length ? row[index] : 0;
    }

    /** A bridge as its text describes it. */
    private static final class Plan {
        final int[] sizes = new int[SIDES * KINDS];
        final int[] credits = new int[SIDES * KINDS];
        final int[] table = new int[KINDS * KINDS];
        final int[] firstWords = new int[SIDES * ADDRESSES];
        final Sum latency0 = new Sum();
        final Sum latency1 = new Sum();
        int split;
        int tagCount;

        void setDefaults() {
            Arrays.fill(sizes, 4);
            Arrays.fill(credits, 2);
            Arrays.fill(firstWords, 0);
            Arrays.fill(table, 0);
            letPass(POSTED_WRITE, READ, COMPLETION);
            letPass(READ, READ, CONFIGURATION_WRITE);
            letPass(CONFIGURATION_WRITE, READ, CONFIGURATION_WRITE);
            letPass(COMPLETION, READ, COMPLETION);
            latency0.setNumber(1);
            latency1.setNumber(1);
            split = 2;
            tagCount = 4;
        }

        private void letPass(int later, int firstEarlier, int lastEarlier) {
            for (int earlier = firstEarlier; earlier <= lastEarlier; earlier++) {
                int index = later * KINDS + earlier;
                if (index >= 0 && index < table.length) {
                    table[index] = 1;
                }
            }
        }

        int sizeOf(int side, int kind) {
            return cellOf(sizes, side * KINDS + kind);
        }

        int creditsOf(int side, int kind) {
            return cellOf(credits, side * KINDS + kind);
        }

        /** The kinds, as a bit set, of which an earlier transaction blocks one of this kind. */
        int blockingKinds(int kind, boolean relaxed) {
            int blocking = 0;
            for (int earlier = 0; earlier < KINDS; earlier++) {
                boolean excused = relaxed && earlier == POSTED_WRITE;
                if (!excused && cellOf(table, kind * KINDS + earlier) == 0) {
                    blocking |= 1 << earlier;
                }
            }
            return blocking;
        }

        Sum latencyOf(int side) {
            return side == 0 ? latency0 : latency1;
        }
    }

    /** A sum in postfix order: numbers stand for themselves, names and operators are negative. */
    private static final class Sum {
        static final int KIND = -1;
        static final int ADDRESS = -2;
        static final int WORDS = -3;
        static final int TICK = -4;
        /** Operators are their signs, negated; this is the nearest to 0. */
        static final int NEAREST_OPERATOR = -'%';

        // Five open brackets, with two operators in each and outside, need 13 places.
        private final int[] values = new int[16];
        private final int[] items = new int[MOST_BYTES];
        private int size;

        void clear() {
            size = 0;
        }

        void add(int item) {
            if (size >= 0 && size < items.length) {
                items[size] = item;
                size++;
            }
        }

        void setNumber(int number) {
            clear();
            add(number);
        }

        int valueFor(int kind, int address, int words, int tick) {
            int top = 0;
            for (int i = 0; i < size && i < items.length; i++) {
                int item = items[i];
                if (item <= NEAREST_OPERATOR) {
                    if (top >= 2 && top <= values.length) {
                        values[top - 2] = combine(-item, values[top - 2], values[top - 1]);
                        top--;
                    }
                } else if (top < values.length) {
                    values[top] = item >= 0 ? item : named(item, kind, address, words, tick);
                    top++;
                }
            }
            return values[0];
        }

        private static int named(int name, int kind, int address, int words, int tick) {
            switch (name) {
                case KIND:
                    return kind;
                case ADDRESS:
                    return address;
                case WORDS:
                    return words;
                default:
                    return tick;
            }
        }

        private static int combine(int operator, int left, int right) {
            switch (operator) {
                case '+':
                    return left + right;
                case '-':
                    return left - right;
                case '*':
                    return left * right;
                case '/':
                    return right == 0 ? 0 : left / right;
                default:
                    return right == 0 ? 0 : left % right;
            }
        }
    }

    /** Reads a bridge text into a plan; the first error that it meets is the one to report. */
    private static final class BridgeText {
        static final int NO_ERROR = 0;
        private static final int NOT_ALLOWED = 1;
        private static final int SECOND_TIME = 2;
        private static final int OUT_OF_RANGE = 3;
        private static final int TOO_DEEP = 4;

        // What a token is: one of these, or its sign.
        private static final int END = 0;
        private static final int INVALID = 1;
        private static final int WORD = 2;
        private static final int NUMBER = 3;

        private static final int LONGEST_WORD = 8;
        private static final int LONGEST_NUMBER = 4;
        private static final int MOST_OPEN = 5;

        private byte[] text = new byte[0];
        private int length;
        private int after;
        private int token;
        private int tokenPlace;
        private int number;
        private int error;
        int errorPlace;
        private boolean hasSplit;
        private boolean hasTags;
        // Operators and brackets of a sum whose right sides have not ended; at most 17 at a time.
        private final int[] pending = new int[24];
        private int pendingCount;
        private int open;

        /** Returns the code of the error. */
        int describe(Plan plan, byte[] bytes, int byteCount) {
            text = bytes;
            length = byteCount;
            after = 0;
            error = NO_ERROR;
            errorPlace = NONE;
            hasSplit = false;
            hasTags = false;
            plan.setDefaults();
            step();
            for (int i = 0; i <= MOST_BYTES && error == NO_ERROR && token != END; i++) {
                statement(plan);
                expectSemicolon();
            }
            return error;
        }

        private void fail(int code) {
            if (error == NO_ERROR) {
                error = code;
                errorPlace = tokenPlace;
            }
        }

        private void statement(Plan plan) {
            if (isWord("buffer")) {
                setting(plan.sizes, SIDES, KINDS, 1, 8);
            } else if (isWord("credit")) {
                setting(plan.credits, SIDES, KINDS, 0, 8);
            } else if (isWord("table")) {
                setting(plan.table, KINDS, KINDS, 0, 1);
            } else if (isWord("word")) {
                setting(plan.firstWords, SIDES, ADDRESSES, 0, 9999);
            } else if (isWord("latency")) {
                step();
                sum(plan.latencyOf(numberIn(0, SIDES - 1)));
            } else if (isWord("split")) {
                once(hasSplit);
                hasSplit = true;
                plan.split = numberIn(1, MOST_WORDS);
            } else if (isWord("tags")) {
                once(hasTags);
                hasTags = true;
                plan.tagCount = numberIn(1, MOST_TAGS);
            } else {
                fail(NOT_ALLOWED);
            }
        }

        /** A word and three numbers: two tell the place in a row, the third goes there. */
        private void setting(int[] row, int firstCount, int secondCount, int lowest, int highest) {
            step();
            int first = numberIn(0, firstCount - 1);
            int second = numberIn(0, secondCount - 1);
            int value = numberIn(lowest, highest);
            int index = first * secondCount + second;
            if (index >= 0 && index < row.length) {
                row[index] = value;
            }
        }

        private void once(boolean before) {
            if (before) {
                fail(SECOND_TIME);
            }
            step();
        }

        private int numberIn(int lowest, int highest) {
            if (token != NUMBER) {
                fail(NOT_ALLOWED);
                return lowest;
            }
            if (number < lowest || number > highest) {
                fail(OUT_OF_RANGE);
                return lowest;
            }
            int found = number;
            step();
            return found;
        }

        private void expectSemicolon() {
            if (token == ';') {
                step();
            } else {
                fail(NOT_ALLOWED);
            }
        }

        private void sum(Sum result) {
            result.clear();
            pendingCount = 0;
            open = 0;
            boolean factorIsDue = true;
            boolean ended = false;
            for (int i = 0; i <= MOST_BYTES && error == NO_ERROR && !ended; i++) {
                if (factorIsDue) {
                    factorIsDue = token == '(';
                    beginFactor(result);
                } else if (rankOf(token) > 0) {
                    addPending(result, rankOf(token));
                    push(token);
                    factorIsDue = true;
                } else if (token == ')' && open > 0) {
                    closeBracket(result);
                } else {
                    ended = true;
                }
                if (!ended) {
                    step();
                }
            }
            if (open > 0) {
                fail(NOT_ALLOWED);
            }
            addPending(result, 1);
        }

        /** A factor of one token, or the bracket that begins one. */
        private void beginFactor(Sum result) {
            if (token == '(') {
                openBracket();
            } else if (token == NUMBER) {
                result.add(number);
            } else if (isWord("kind")) {
                result.add(Sum.KIND);
            } else if (isWord("address")) {
                result.add(Sum.ADDRESS);
            } else if (isWord("words")) {
                result.add(Sum.WORDS);
            } else if (isWord("tick")) {
                result.add(Sum.TICK);
            } else {
                fail(NOT_ALLOWED);
            }
        }

        private void openBracket() {
            if (open >= MOST_OPEN) {
                fail(TOO_DEEP);
            } else {
                open++;
                push('(');
            }
        }

        private void closeBracket(Sum result) {
            addPending(result, 1);
            if (pendingCount > 0) {
                pendingCount--;
            }
            open--;
        }

        private void push(int sign) {
            if (pendingCount >= 0 && pendingCount < pending.length) {
                pending[pendingCount] = sign;
                pendingCount++;
            }
        }

        /** Moves the latest pending operators of at least this rank into the sum, up to a bracket. */
        private void addPending(Sum result, int rank) {
            for (int top = pendingCount - 1; top >= 0 && rankOf(cellOf(pending, top)) >= rank; top--) {
                result.add(-cellOf(pending, top));
                pendingCount = top;
            }
        }

        /** 0 for what is no operator. */
        private static int rankOf(int sign) {
            if (sign == '+' || sign == '-') {
                return 1;
            }
            return sign == '*' || sign == '/' || sign == '%' ? 2 : 0;
        }

        private boolean isWord(String name) {
            if (token != WORD || after - tokenPlace != name.length()) {
                return false;
            }
            for (int i = 0; i < name.length(); i++) {
                if (byteAt(tokenPlace + i) != name.charAt(i)) {
                    return false;
                }
            }
            return true;
        }

        /** Goes on to the next token. */
        private void step() {
            while (after < length && isSpace(byteAt(after))) {
                after++;
            }
            tokenPlace = after;
            int first = byteAt(after);
            if (after >= length) {
                token = END;
            } else if (isLetter(first)) {
                stepOverWord();
            } else if (isDigit(first)) {
                stepOverNumber();
            } else {
                token = isSign(first) ? first : INVALID;
                after++;
            }
        }

        private void stepOverWord() {
            while (after < length && isLetter(byteAt(after))) {
                after++;
            }
            token = after - tokenPlace <= LONGEST_WORD ? WORD : INVALID;
        }

        private void stepOverNumber() {
            number = 0;
            while (after < length && isDigit(byteAt(after))) {
                number = number * 10 + byteAt(after) - '0';
                after++;
            }
            token = after - tokenPlace <= LONGEST_NUMBER ? NUMBER : INVALID;
        }

        private int byteAt(int index) {
            return index >= 0 && index < length && index < text.length ? text[index] : 0;
        }

        private static boolean isSpace(int sign) {
            return sign == 32 || sign == 10;
        }

        private static boolean isLetter(int sign) {
            return sign >= 'a' && sign <= 'z';
        }

        private static boolean isDigit(int sign) {
            return sign >= '0' && sign <= '9';
        }

        private static boolean isSign(int sign) {
            return sign == ';' || sign == '(' || sign == ')' || rankOf(sign) > 0;
        }
    }

    /** Transactions in the order in which they came, each a stretch of one row. */
    private static final class Line {
        static final int KIND = 0;
        static final int TAG = 1;
        static final int RELAXED = 2;
        static final int ADDRESS = 3;
        static final int WORDS = 4;
        /** The tick in which it came into the bridge; in a target, the tick from which it is worked on. */
        static final int TIME = 5;
        /** The words of a read that have been answered; the index of a completion's first word. */
        static final int OFFSET = 6;
        /** The words that a write or a completion carries. */
        static final int VALUES = 7;
        private static final int WIDTH = VALUES + MOST_WORDS;
        /** At most 8 of each kind, in a buffer as in a target. */
        private static final int PLACES = 8 * KINDS;

        private final int[] cells = new int[PLACES * WIDTH];
        private final int[] counts = new int[KINDS];
        int size;

        void clear() {
            size = 0;
            Arrays.fill(counts, 0);
        }

        void copyFrom(Line other) {
            size = other.size;
            System.arraycopy(other.counts, 0, counts, 0, KINDS);
            if (size >= 0 && size <= PLACES) {
                System.arraycopy(other.cells, 0, cells, 0, size * WIDTH);
            }
        }

        int get(int position, int field) {
            int index = position * WIDTH + field;
            return index >= 0 && index < cells.length ? cells[index] : 0;
        }

        void put(int position, int field, int value) {
            int index = position * WIDTH + field;
            if (index >= 0 && index < cells.length) {
                cells[index] = value;
            }
        }

        boolean isRelaxed(int position) {
            return get(position, RELAXED) == 1;
        }

        int countOf(int kind) {
            return cellOf(counts, kind);
        }

        private void count(int kind, int more) {
            if (kind >= 0 && kind < counts.length) {
                counts[kind] += more;
            }
        }

        /** Adds a transaction, with the offset 0 and no values yet, and returns its position. */
        int open(int kind, int tag, boolean relaxed, int address, int words, int time) {
            int start = size * WIDTH;
            if (size < 0 || size >= PLACES || kind < 0 || kind >= KINDS) {
                return NONE;
            }
            cells[start + KIND] = kind;
            cells[start + TAG] = tag;
            cells[start + RELAXED] = relaxed ? 1 : 0;
            cells[start + ADDRESS] = address;
            cells[start + WORDS] = words;
            cells[start + TIME] = time;
            cells[start + OFFSET] = 0;
            counts[kind]++;
            size++;
            return size - 1;
        }

        /** Gives a write its words: the value, the value plus 1, and so on. */
        void putValues(int position, int value) {
            for (int i = 0; i < MOST_WORDS; i++) {
                put(position, VALUES + i, value + i);
            }
        }

        /** Moves a transaction from another line to the end of this one, and returns its position. */
        int takeFrom(Line other, int position) {
            if (size < 0 || size >= PLACES || position < 0 || position >= PLACES) {
                return NONE;
            }
            System.arraycopy(other.cells, position * WIDTH, cells, size * WIDTH, WIDTH);
            count(other.get(position, KIND), 1);
            other.remove(position);
            size++;
            return size - 1;
        }

        void remove(int position) {
            if (position < 0 || position >= size || size > PLACES) {
                return;
            }
            count(get(position, KIND), -1);
            size--;
            int moved = (size - position) * WIDTH;
            System.arraycopy(cells, (position + 1) * WIDTH, cells, position * WIDTH, moved);
        }
    }

    /** The tags of a side and what has been stored for them. */
    private static final class Tags {
        private final int[] states = new int[MOST_TAGS];
        private final int[] wanted = new int[MOST_TAGS];
        /** Which words have come, as bit sets: completions of one read can be worked on in any order. */
        private final int[] come = new int[MOST_TAGS];
        private final int[] words = new int[MOST_TAGS * MOST_WORDS];

        void clear() {
            Arrays.fill(states, FREE);
            Arrays.fill(wanted, 0);
            Arrays.fill(come, 0);
            Arrays.fill(words, 0);
        }

        void copyFrom(Tags other) {
            System.arraycopy(other.states, 0, states, 0, MOST_TAGS);
            System.arraycopy(other.wanted, 0, wanted, 0, MOST_TAGS);
            System.arraycopy(other.come, 0, come, 0, MOST_TAGS);
            System.arraycopy(other.words, 0, words, 0, MOST_TAGS * MOST_WORDS);
        }

        int stateOf(int tag) {
            return cellOf(states, tag);
        }

        int storedWords(int tag) {
            return Integer.bitCount(cellOf(come, tag));
        }

        boolean hasWord(int tag, int index) {
            return index >= 0 && index < MOST_WORDS && hasBit(cellOf(come, tag), index);
        }

        int wordOf(int tag, int index) {
            return cellOf(words, tag * MOST_WORDS + index);
        }

        int lowestFree(int tagCount) {
            for (int tag = 0; tag < tagCount; tag++) {
                if (stateOf(tag) == FREE) {
                    return tag;
                }
            }
            return NONE;
        }

        /** A configuration write wants 0 words. */
        void begin(int tag, int wantedWords) {
            put(tag, PENDING, wantedWords);
        }

        void free(int tag) {
            put(tag, FREE, 0);
        }

        private void put(int tag, int state, int wantedWords) {
            if (tag >= 0 && tag < MOST_TAGS) {
                states[tag] = state;
                wanted[tag] = wantedWords;
                come[tag] = 0;
            }
        }

        void store(int tag, int index, int value) {
            int cell = tag * MOST_WORDS + index;
            if (tag >= 0 && tag < MOST_TAGS && index >= 0 && index < MOST_WORDS && cell < words.length) {
                words[cell] = value;
                come[tag] |= 1 << index;
            }
        }

        /** Completes a tag whose words are all there; for use after each of its completions. */
        void completeIfAllCame(int tag) {
            if (tag >= 0 && tag < MOST_TAGS && Integer.bitCount(come[tag]) >= wanted[tag]) {
                states[tag] = COMPLETE;
            }
        }
    }

    /** One side: what waits from it, what its target holds, its memory, tags and figures. */
    private static final class Port {
        final Line queue = new Line();
        final Line work = new Line();
        final Tags tags = new Tags();
        private final int[] memory = new int[ADDRESSES];
        int forwardedCount;
        int passedCount;
        int waitedTicks;

        void start(Plan plan, int side) {
            queue.clear();
            work.clear();
            tags.clear();
            for (int address = 0; address < ADDRESSES; address++) {
                memory[address] = cellOf(plan.firstWords, side * ADDRESSES + address);
            }
            forwardedCount = 0;
            passedCount = 0;
            waitedTicks = 0;
        }

        void copyFrom(Port other) {
            queue.copyFrom(other.queue);
            work.copyFrom(other.work);
            tags.copyFrom(other.tags);
            System.arraycopy(other.memory, 0, memory, 0, ADDRESSES);
            forwardedCount = other.forwardedCount;
            passedCount = other.passedCount;
            waitedTicks = other.waitedTicks;
        }

        int memoryAt(int address) {
            return cellOf(memory, address);
        }

        /** Step 2 of a tick for this side; returns whether anything was done. */
        boolean workInTick(int now, int room, int split) {
            int workBefore = work.size;
            int queueBefore = queue.size;
            int position = 0;
            for (int i = 0; i < workBefore; i++) {
                if (work.get(position, Line.TIME) <= now && finishes(position, now, room, split)) {
                    work.remove(position);
                } else {
                    position++;
                }
            }
            return work.size != workBefore || queue.size != queueBefore;
        }

        /** The first later tick from which a transaction is worked on; NEVER if there is none. */
        int firstDueAfter(int now) {
            int first = NEVER;
            for (int position = 0; position < work.size; position++) {
                int due = work.get(position, Line.TIME);
                if (due > now) {
                    first = Math.min(first, due);
                }
            }
            return first;
        }

        /** Works on a transaction that the target holds; returns whether it is done. */
        private boolean finishes(int position, int now, int room, int split) {
            switch (work.get(position, Line.KIND)) {
                case POSTED_WRITE:
                    writeMemory(position);
                    return true;
                case READ:
                    return answerRead(position, now, room, split);
                case CONFIGURATION_WRITE:
                    return answerConfiguration(position, now, room);
                default:
                    storeCompletion(position);
                    return true;
            }
        }

        private void writeMemory(int position) {
            int words = work.get(position, Line.WORDS);
            for (int i = 0; i < words && i < MOST_WORDS; i++) {
                int address = work.get(position, Line.ADDRESS) + i;
                if (address >= 0 && address < ADDRESSES) {
                    memory[address] = work.get(position, Line.VALUES + i);
                }
            }
        }

        private boolean answerConfiguration(int position, int now, int room) {
            if (queue.countOf(COMPLETION) >= room) {
                return false;
            }
            writeMemory(position);
            addCompletion(position, 0, 0, now);
            return true;
        }

        private boolean answerRead(int position, int now, int room, int split) {
            int words = work.get(position, Line.WORDS);
            int offset = work.get(position, Line.OFFSET);
            for (int i = 0; i < MOST_WORDS && offset < words && queue.countOf(COMPLETION) < room; i++) {
                int part = Math.min(split, words - offset);
                addCompletion(position, offset, part, now);
                offset += part;
            }
            work.put(position, Line.OFFSET, offset);
            return offset >= words;
        }

        private void addCompletion(int position, int offset, int words, int now) {
            int address = work.get(position, Line.ADDRESS) + offset;
            int tag = work.get(position, Line.TAG);
            boolean relaxed = work.get(position, Line.RELAXED) == 1;
            int place = queue.open(COMPLETION, tag, relaxed, address, words, now);
            queue.put(place, Line.OFFSET, offset);
            for (int i = 0; i < words && i < MOST_WORDS; i++) {
                queue.put(place, Line.VALUES + i, cellOf(memory, address + i));
            }
        }

        private void storeCompletion(int position) {
            int tag = work.get(position, Line.TAG);
            int offset = work.get(position, Line.OFFSET);
            int words = work.get(position, Line.WORDS);
            for (int i = 0; i < words && i < MOST_WORDS; i++) {
                tags.store(tag, offset + i, work.get(position, Line.VALUES + i));
            }
            tags.completeIfAllCame(tag);
        }

        /** Forwards a waiting transaction to the target of another side. */
        void forwardTo(Port other, int position, int now, Sum latency) {
            forwardedCount++;
            passedCount += position;
            waitedTicks += now - queue.get(position, Line.TIME);
            int kind = queue.get(position, Line.KIND);
            int address = queue.get(position, Line.ADDRESS);
            int words = queue.get(position, Line.WORDS);
            int ticks = Math.max(0, Math.min(MOST_LATENCY, latency.valueFor(kind, address, words, now)));
            int place = other.work.takeFrom(queue, position);
            other.work.put(place, Line.TIME, now + ticks + 1);
        }
    }

    /** Everything that changes can change. */
    private static final class Situation {
        int now;
        /** Whether the latest tick changed anything but its number. */
        boolean moved;
        private final Port port0 = new Port();
        private final Port port1 = new Port();

        void start(Plan plan) {
            now = 0;
            port0.start(plan, 0);
            port1.start(plan, 1);
        }

        void copyFrom(Situation other) {
            now = other.now;
            port0.copyFrom(other.port0);
            port1.copyFrom(other.port1);
        }

        Port portOf(int side) {
            return side == 0 ? port0 : port1;
        }

        boolean isEmpty() {
            return port0.queue.size + port0.work.size + port1.queue.size + port1.work.size == 0;
        }

        int forwardedInAll() {
            return port0.forwardedCount + port1.forwardedCount;
        }

        /**
         * Does one tick, or, if nothing moves in it, as many as nothing moves in, but at most some;
         * returns how many. What does not move in a tick stays so until another transaction is due.
         */
        int advance(Plan plan, int most) {
            now++;
            boolean worked0 = port0.workInTick(now, plan.sizeOf(0, COMPLETION), plan.split);
            boolean worked1 = port1.workInTick(now, plan.sizeOf(1, COMPLETION), plan.split);
            boolean forwarded0 = forwardFrom(plan, 0);
            boolean forwarded1 = forwardFrom(plan, 1);
            moved = worked0 || worked1 || forwarded0 || forwarded1;
            int idle = moved ? 0 : Math.max(0, Math.min(most - 1, firstDue() - 1 - now));
            now += idle;
            return 1 + idle;
        }

        private int firstDue() {
            return Math.min(port0.firstDueAfter(now), port1.firstDueAfter(now));
        }

        private boolean forwardFrom(Plan plan, int side) {
            int position = firstReady(plan, side);
            if (position == NONE) {
                return false;
            }
            int other = 1 - side;
            portOf(side).forwardTo(portOf(other), position, now, plan.latencyOf(other));
            return true;
        }

        /** The position of the first waiting transaction that can be forwarded now, or NONE. */
        int firstReady(Plan plan, int side) {
            Line queue = portOf(side).queue;
            Line target = portOf(1 - side).work;
            int earlierKinds = 0;
            for (int position = 0; position < queue.size; position++) {
                int kind = queue.get(position, Line.KIND);
                int blocking = plan.blockingKinds(kind, queue.isRelaxed(position));
                boolean hasCredit = target.countOf(kind) < plan.creditsOf(1 - side, kind);
                if ((blocking & earlierKinds) == 0 && hasCredit) {
                    return position;
                }
                earlierKinds |= 1 << kind;
            }
            return NONE;
        }
    }

    /** The situations before the latest changes, in a ring. */
    private static final class History {
        private final Situation[] befores = new Situation[CHANGES_KEPT];
        private int newest;
        private int count;

        History() {
            for (int i = 0; i < CHANGES_KEPT; i++) {
                befores[i] = new Situation();
            }
        }

        void forget() {
            count = 0;
        }

        void remember(Situation situation) {
            newest = newest + 1 < CHANGES_KEPT ? newest + 1 : 0;
            Situation before = newestBefore();
            if (before != null) {
                before.copyFrom(situation);
                count = Math.min(CHANGES_KEPT, count + 1);
            }
        }

        /** Returns how many changes are left to undo, or NONE if there was none to undo. */
        int takeBack(Situation situation) {
            Situation before = newestBefore();
            if (count <= 0 || before == null) {
                return NONE;
            }
            situation.copyFrom(before);
            newest = newest > 0 ? newest - 1 : CHANGES_KEPT - 1;
            count--;
            return count;
        }

        private Situation newestBefore() {
            return newest >= 0 && newest < befores.length ? befores[newest] : null;
        }
    }
}
