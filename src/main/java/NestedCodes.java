/**
 * Codes within codes: the symbols of an outer code over a field of 16 numbers are sent as words
 * of an inner binary code, received with errors and losses, and decoded in trials.
 */
public final class NestedCodes {
    public static final int INVALID_ARGUMENT = -1001;
    public static final int NOT_POSSIBLE = -1002;
    public static final int LIMIT_REACHED = -1003;
    public static final int NOT_FOUND = -1004;

    private static final int SYMBOLS = 16;
    private static final int SYMBOL_BITS = 4;
    private static final int GENERATORS = 4;
    private static final int MAX_GENERATOR = 1023;
    private static final int MIN_BLOCKS = 3;
    private static final int MAX_BLOCKS = 12;
    private static final int MAX_DIMENSION = 3;
    private static final int MIN_BITS = 4;
    private static final int MAX_BITS = 10;
    private static final int MAX_HISTORY = 6;
    /** The polynomial x^4 + x + 1. */
    private static final int FIELD_POLYNOMIAL = 19;
    /** Stands for a message where there is none. */
    private static final int NO_MESSAGE = -1;

    private final State state;
    private final History history;
    private final InnerCode inner;
    private final OuterCode outer;
    private final Reading reading;
    private final int[] waiting;
    private int waitingCount;

    public NestedCodes() {
        state = new State();
        history = new History();
        inner = new InnerCode();
        outer = new OuterCode();
        reading = new Reading();
        waiting = new int[GENERATORS];
        waitingCount = 0;
        readAgain();
    }

    // ---- codes

    public int setOuter(int length, int dimension) {
        if (length < MIN_BLOCKS || length > MAX_BLOCKS) {
            return INVALID_ARGUMENT;
        }
        if (dimension < 1 || dimension > MAX_DIMENSION || dimension >= length) {
            return INVALID_ARGUMENT;
        }
        int previous = 10 * state.length + state.dimension;
        history.record(state);
        state.length = length;
        state.dimension = dimension;
        state.clearBlocks();
        readAgain();
        return previous;
    }

    public int generator(int generator) {
        if (generator < 1 || generator > MAX_GENERATOR) {
            return INVALID_ARGUMENT;
        }
        if (waitingCount >= GENERATORS) {
            return LIMIT_REACHED;
        }
        waiting[waitingCount] = generator;
        waitingCount++;
        return waitingCount;
    }

    public int clearGenerators() {
        int previous = waitingCount;
        waitingCount = 0;
        return previous;
    }

    public int setInner(int length) {
        if (length < MIN_BITS || length > MAX_BITS) {
            return INVALID_ARGUMENT;
        }
        if (waitingCount != GENERATORS || !generateInnerCode(waiting, length)) {
            return NOT_POSSIBLE;
        }
        history.record(state);
        state.bits = length;
        for (int i = 0; i < GENERATORS; i++) {
            state.generators[i] = waiting[i];
        }
        waitingCount = 0;
        state.clearBlocks();
        readAgain();
        return inner.distance;
    }

    public int undo() {
        if (history.size == 0) {
            return NOT_POSSIBLE;
        }
        history.restoreLatest(state);
        readAgain();
        return history.size;
    }

    public int count(int what) {
        switch (what) {
            case 0:
                return state.length;
            case 1:
                return state.dimension;
            case 2:
                return state.outerDistance();
            case 3:
                return state.bits;
            case 4:
                return inner.distance;
            case 5:
                return waitingCount;
            case 6:
                return history.size;
            case 7:
                return lostBlocks();
            case 8:
                return wrongBits();
            default:
                return INVALID_ARGUMENT;
        }
    }

    public int wordOf(int symbol) {
        if (!isSymbol(symbol)) {
            return INVALID_ARGUMENT;
        }
        return inner.words[symbol];
    }

    public int product(int a, int b) {
        if (!isSymbol(a) || !isSymbol(b)) {
            return INVALID_ARGUMENT;
        }
        return fieldProduct(a, b);
    }

    public int symbolFor(int message, int block) {
        if (!isMessage(message) || !isBlock(block)) {
            return INVALID_ARGUMENT;
        }
        return symbolIn(outer.codeword(message), block);
    }

    // ---- sending

    public int send(int message) {
        if (!isMessage(message)) {
            return INVALID_ARGUMENT;
        }
        history.record(state);
        state.clearBlocks();
        state.sentMessage = message;
        int ones = 0;
        for (int block = 0; block < state.length; block++) {
            int word = wordSentFor(message, block);
            state.words[block] = word;
            ones += Integer.bitCount(word);
        }
        readAgain();
        return ones;
    }

    public int flip(int block, int mask) {
        if (!isBlock(block) || mask < 1 || mask > state.allBits()) {
            return INVALID_ARGUMENT;
        }
        if (state.lost[block]) {
            return NOT_POSSIBLE;
        }
        history.record(state);
        state.words[block] ^= mask;
        readAgain();
        return reading.gaps[block];
    }

    public int lose(int block, int lost) {
        if (!isBlock(block) || lost < 0 || lost > 1) {
            return INVALID_ARGUMENT;
        }
        int previous = state.lost[block] ? 1 : 0;
        history.record(state);
        state.lost[block] = lost == 1;
        readAgain();
        return previous;
    }

    public int burst(int place, int length) {
        int places = state.bits * state.length;
        if (place < 0 || place >= places || length < 1 || length > places - place) {
            return INVALID_ARGUMENT;
        }
        history.record(state);
        int changed = 0;
        for (int block = 0; block < state.length; block++) {
            int mask = burstMask(block, place, place + length);
            state.words[block] ^= mask;
            if (mask != 0) {
                changed++;
            }
        }
        readAgain();
        return changed;
    }

    public int sendCascade() {
        int message = lawfulMessage();
        if (message == NO_MESSAGE) {
            return NOT_POSSIBLE;
        }
        history.record(state);
        state.sentMessage = message;
        int changed = 0;
        for (int block = 0; block < state.length; block++) {
            int word = wordSentFor(message, block);
            int errors = state.shiftedRound(state.words[block] ^ word);
            state.words[block] = word ^ errors;
            changed += Integer.bitCount(errors);
        }
        readAgain();
        return changed;
    }

    public int received(int block) {
        if (!isBlock(block)) {
            return INVALID_ARGUMENT;
        }
        return state.lost[block] ? NOT_FOUND : state.words[block];
    }

    public int sent() {
        return state.sentMessage;
    }

    // ---- blocks

    public int block(int block, int what) {
        if (!isBlock(block)) {
            return INVALID_ARGUMENT;
        }
        switch (what) {
            case 0:
                return reading.symbols[block];
            case 1:
                return reading.gaps[block];
            case 2:
                return reading.reliabilities[block];
            case 3:
                return reading.places[block];
            case 4:
                return reading.symbols[block] == sentSymbol(block) ? 1 : 0;
            default:
                return INVALID_ARGUMENT;
        }
    }

    public int blockAt(int place) {
        // The order has as many places as there are blocks.
        if (!isBlock(place)) {
            return INVALID_ARGUMENT;
        }
        return reading.order[place];
    }

    public int strength(int block) {
        if (!isBlock(block)) {
            return INVALID_ARGUMENT;
        }
        if (state.lost[block]) {
            return NOT_POSSIBLE;
        }
        return inner.bitsToAnotherSymbol(state.words[block]);
    }

    // ---- trials and decoding

    public int trial(int s) {
        if (s < 0 || s >= state.outerDistance()) {
            return INVALID_ARGUMENT;
        }
        long kept = reading.keptBlocks(s);
        int messages = state.messages();
        for (int message = 0; message < messages; message++) {
            if (isResult(outer.codeword(message), s, kept)) {
                return message;
            }
        }
        return NOT_FOUND;
    }

    public int score(int message) {
        if (!isMessage(message)) {
            return INVALID_ARGUMENT;
        }
        return reading.scoreOf(outer.codeword(message));
    }

    public int lawful() {
        // Two codewords agree in n - D blocks at most, and what one gains in the others the other
        // loses: so their scores can't both be greater than d * (n - D).
        return lawfulMessage() == NO_MESSAGE ? 0 : 1;
    }

    public int decode() {
        int message = lawfulMessage();
        return message == NO_MESSAGE ? NOT_FOUND : message;
    }

    public int decidingTrial() {
        int message = lawfulMessage();
        if (message == NO_MESSAGE) {
            return NOT_FOUND;
        }
        for (int s = 0; s < state.outerDistance(); s++) {
            if (isResult(outer.codeword(message), s, reading.keptBlocks(s))) {
                return s;
            }
        }
        return NOT_FOUND;
    }

    public int margin() {
        int message = lawfulMessage();
        if (message == NO_MESSAGE) {
            return NOT_FOUND;
        }
        return reading.scoreOf(outer.codeword(message)) - lawBound();
    }

    public int wastedTrials() {
        int trials = state.outerDistance();
        int message = lawfulMessage();
        if (message == NO_MESSAGE) {
            return trials;
        }
        int wasted = 0;
        for (int s = 0; s < trials; s++) {
            if (!isResult(outer.codeword(message), s, reading.keptBlocks(s))) {
                wasted++;
            }
        }
        return wasted;
    }

    public int isGuaranteed() {
        int damage = 2 * wrongBits() + inner.distance * lostBlocks();
        return damage < inner.distance * state.outerDistance() ? 1 : 0;
    }

    public int fragileBits() {
        int fragile = 0;
        for (int block = 0; block < state.length; block++) {
            if (!state.lost[block]) {
                fragile += fragileBitsOf(block);
            }
        }
        return fragile;
    }

    public int fragileBlocks() {
        int sentScore = reading.scoreOf(outer.codeword(state.sentMessage));
        int fragile = 0;
        for (int block = 0; block < state.length; block++) {
            // Lost, the block would have reliability 0 and so no part in the score.
            if (sentScore - partInSentScore(block) <= lawBound()) {
                fragile++;
            }
        }
        return fragile;
    }

    public int nearest(int what) {
        if (what < 0 || what > 1) {
            return INVALID_ARGUMENT;
        }
        int decoded = lawfulMessage();
        if (decoded == NO_MESSAGE) {
            return NOT_FOUND;
        }
        // A message whose polynomial is 0 in k - 1 blocks, as there always is one, gives D
        // differences, and less there can't be.
        return what == 0 ? state.outerDistance() : nearestMessage(decoded);
    }

    // ---- arguments

    private static boolean isSymbol(int number) {
        return number >= 0 && number < SYMBOLS;
    }

    private boolean isMessage(int number) {
        return number >= 0 && number < state.messages();
    }

    private boolean isBlock(int number) {
        return number >= 0 && number < state.length;
    }

    // ---- codes and blocks

    /** Whether the generators have at most so many bits and give 16 different words. */
    private static boolean generateInnerCode(int[] generators, int bits) {
        for (int i = 0; i < GENERATORS; i++) {
            if (generators[i] >= 1 << bits) {
                return false;
            }
        }
        // The words form a group, so two are equal just if a symbol other than 0 has the word 0.
        for (int symbol = 1; symbol < SYMBOLS; symbol++) {
            if (generatedWord(generators, symbol) == 0) {
                return false;
            }
        }
        return true;
    }

    private static int generatedWord(int[] generators, int symbol) {
        int word = 0;
        for (int i = 0; i < GENERATORS; i++) {
            if ((symbol >> i & 1) == 1) {
                word ^= generators[i];
            }
        }
        return word;
    }

    private static int fieldProduct(int a, int b) {
        int sum = 0;
        int shifted = a;
        for (int i = 0; i < SYMBOL_BITS; i++) {
            if ((b >> i & 1) == 1) {
                sum ^= shifted;
            }
            shifted <<= 1;
            if (shifted >= SYMBOLS) {
                shifted ^= FIELD_POLYNOMIAL;
            }
        }
        return sum;
    }

    private static int symbolIn(long codeword, int block) {
        return (int) (codeword >>> SYMBOL_BITS * block) & SYMBOLS - 1;
    }

    /** Everything that follows from the state, made anew after each change of it. */
    private void readAgain() {
        inner.setGenerators(state.generators);
        reading.read(state, inner);
    }

    private int sentSymbol(int block) {
        return symbolIn(outer.codeword(state.sentMessage), block);
    }

    private int wordSentFor(int message, int block) {
        return inner.words[symbolIn(outer.codeword(message), block)];
    }

    private int lostBlocks() {
        int lost = 0;
        for (int block = 0; block < state.length; block++) {
            if (state.lost[block]) {
                lost++;
            }
        }
        return lost;
    }

    private int wrongBits() {
        int wrong = 0;
        for (int block = 0; block < state.length; block++) {
            if (!state.lost[block]) {
                int right = wordSentFor(state.sentMessage, block);
                wrong += Integer.bitCount(state.words[block] ^ right);
            }
        }
        return wrong;
    }

    /** The bits of a block whose places are from start on and before end. */
    private int burstMask(int block, int start, int end) {
        int offset = state.bits * block;
        int low = Math.max(start - offset, 0);
        int high = Math.min(end - offset, state.bits);
        return low < high ? (1 << high) - (1 << low) : 0;
    }

    // ---- decoding

    private int lawBound() {
        return inner.distance * (state.length - state.outerDistance());
    }

    /** Whether a codeword is the result of trial s, which keeps the blocks marked in kept. */
    private boolean isResult(long codeword, int s, long kept) {
        int wrong = Long.bitCount(reading.differingBlocks(codeword) & kept);
        return 2 * wrong + s < state.outerDistance();
    }

    /**
     * The message of the lawful codeword, which is the decoded one. It needs no trials to find it:
     * there is at most one lawful codeword, and a lawful one is the result of a trial. For take
     * the reliabilities in their order, and d behind them: the steps from 0 to the first of them
     * and from each to the next are not negative and add up to d. A score is the sum, over s from
     * 0 to n, of step s times n - s - 2 * e, with the e of trial s. So if it is greater than
     * d * (n - D), then for some s n - s - 2 * e is greater than n - D, that is, 2 * e + s is less
     * than D.
     */
    private int lawfulMessage() {
        int bound = lawBound();
        int outerDistance = state.outerDistance();
        int messages = state.messages();
        for (int message = 0; message < messages; message++) {
            long codeword = outer.codeword(message);
            // With D wrong blocks or more the score is too low; most messages end here.
            if (Long.bitCount(reading.differingBlocks(codeword)) < outerDistance
                    && reading.scoreOf(codeword) > bound) {
                return message;
            }
        }
        return NO_MESSAGE;
    }

    /** What a block adds to the score of the codeword that was sent. */
    private int partInSentScore(int block) {
        int reliability = reading.reliabilities[block];
        return reading.symbols[block] == sentSymbol(block) ? reliability : -reliability;
    }

    /** Decoding gives what was sent just if that is lawful, so its score decides alone. */
    private int fragileBitsOf(int block) {
        int right = sentSymbol(block);
        int ofOthers = reading.scoreOf(outer.codeword(state.sentMessage)) - partInSentScore(block);
        int fragile = 0;
        for (int bit = 0; bit < state.bits; bit++) {
            int word = state.words[block] ^ 1 << bit;
            int symbol = inner.symbolOf(word);
            int reliability = inner.reliability(inner.bitsBetween(word, symbol));
            int part = symbol == right ? reliability : -reliability;
            if (ofOthers + part <= lawBound()) {
                fragile++;
            }
        }
        return fragile;
    }

    private int nearestMessage(int message) {
        long codeword = outer.codeword(message);
        int messages = state.messages();
        for (int other = 0; other < messages; other++) {
            long difference = OuterCode.markSymbols(codeword ^ outer.codeword(other));
            int blocks = Long.bitCount(difference & OuterCode.marks(state.length));
            if (blocks == state.outerDistance()) {
                return other;
            }
        }
        return NOT_FOUND;
    }

    /** What a change may alter and undo brings back. */
    private static final class State {
        /** The numbers that the document calls n, k and b. */
        private int length;
        private int dimension;
        private int bits;
        private final int[] generators;
        /** The received words, those of lost blocks too. */
        private final int[] words;
        private final boolean[] lost;
        private int sentMessage;

        private State() {
            length = 8;
            dimension = 3;
            bits = 7;
            generators = new int[GENERATORS];
            generators[0] = 49;
            generators[1] = 82;
            generators[2] = 100;
            generators[3] = 120;
            words = new int[MAX_BLOCKS];
            lost = new boolean[MAX_BLOCKS];
            sentMessage = 0;
        }

        private void copyFrom(State other) {
            length = other.length;
            dimension = other.dimension;
            bits = other.bits;
            sentMessage = other.sentMessage;
            for (int i = 0; i < GENERATORS; i++) {
                generators[i] = other.generators[i];
            }
            for (int block = 0; block < MAX_BLOCKS; block++) {
                words[block] = other.words[block];
                lost[block] = other.lost[block];
            }
        }

        private void clearBlocks() {
            sentMessage = 0;
            for (int block = 0; block < MAX_BLOCKS; block++) {
                words[block] = 0;
                lost[block] = false;
            }
        }

        private int outerDistance() {
            return length - dimension + 1;
        }

        private int messages() {
            return 1 << SYMBOL_BITS * dimension;
        }

        private int allBits() {
            return (1 << bits) - 1;
        }

        private int shiftedRound(int word) {
            return (word << 1 | word >> bits - 1) & allBits();
        }
    }

    /** The states before the latest changes, the oldest first; its rows are used again. */
    private static final class History {
        private final State[] states;
        private int size;

        private History() {
            states = new State[MAX_HISTORY];
            for (int i = 0; i < MAX_HISTORY; i++) {
                states[i] = new State();
            }
            size = 0;
        }

        private void record(State state) {
            if (size >= MAX_HISTORY) {
                dropOldest();
            }
            states[size].copyFrom(state);
            size++;
        }

        private void dropOldest() {
            State oldest = states[0];
            for (int i = 1; i < MAX_HISTORY; i++) {
                states[i - 1] = states[i];
            }
            states[MAX_HISTORY - 1] = oldest;
            size = MAX_HISTORY - 1;
        }

        private void restoreLatest(State state) {
            if (size > 0) {
                size--;
                state.copyFrom(states[size]);
            }
        }
    }

    /** The words of the 16 symbols. */
    private static final class InnerCode {
        private final int[] words;
        private int distance;

        private InnerCode() {
            words = new int[SYMBOLS];
            distance = 0;
        }

        private void setGenerators(int[] generators) {
            distance = MAX_BITS;
            words[0] = 0;
            for (int symbol = 1; symbol < SYMBOLS; symbol++) {
                words[symbol] = generatedWord(generators, symbol);
                distance = Math.min(distance, Integer.bitCount(words[symbol]));
            }
        }

        private int bitsBetween(int word, int symbol) {
            return Integer.bitCount(word ^ words[symbol]);
        }

        private int symbolOf(int word) {
            int closest = 0;
            for (int symbol = 1; symbol < SYMBOLS; symbol++) {
                if (bitsBetween(word, symbol) < bitsBetween(word, closest)) {
                    closest = symbol;
                }
            }
            return closest;
        }

        private int reliability(int gap) {
            return Math.max(distance - 2 * gap, 0);
        }

        private int bitsToAnotherSymbol(int word) {
            int closest = symbolOf(word);
            int gap = bitsBetween(word, closest);
            int least = MAX_BITS;
            for (int symbol = 0; symbol < SYMBOLS; symbol++) {
                if (symbol != closest) {
                    // Each bit changed from the one word's to the other's takes 2 off the lead.
                    // A lower symbol wins when the lead is gone, a higher one needs to be ahead.
                    int lead = bitsBetween(word, symbol) - gap;
                    int needed = symbol < closest ? (lead + 1) / 2 : lead / 2 + 1;
                    least = Math.min(least, needed);
                }
            }
            return least;
        }
    }

    /**
     * The codewords. One is a long, with the symbol of block j in the bits from 4 * j on, for all
     * of the 12 blocks that there can be: so the same rows serve every n and k. Marks of blocks
     * are longs, too, with the bit 4 * j for block j.
     */
    private static final class OuterCode {
        private static final long ALL_MARKS = 0x111111111111L;
        /** For the number v as m(i): what it adds to the codeword, at 16 * i + v. */
        private final long[] parts;

        private OuterCode() {
            parts = new long[SYMBOLS * MAX_DIMENSION];
            for (int value = 0; value < SYMBOLS; value++) {
                for (int block = 0; block < MAX_BLOCKS; block++) {
                    int symbol = value;
                    for (int i = 0; i < MAX_DIMENSION; i++) {
                        parts[SYMBOLS * i + value] |= (long) symbol << SYMBOL_BITS * block;
                        symbol = fieldProduct(symbol, block + 1);
                    }
                }
            }
        }

        private long codeword(int message) {
            int last = SYMBOLS - 1;
            return parts[message & last]
                    ^ parts[SYMBOLS + (message >> SYMBOL_BITS & last)]
                    ^ parts[2 * SYMBOLS + (message >> 2 * SYMBOL_BITS & last)];
        }

        /** Marks the blocks whose symbol is not 0. */
        private static long markSymbols(long symbols) {
            long pairs = symbols | symbols >>> 1;
            return (pairs | pairs >>> 2) & ALL_MARKS;
        }

        /** Marks the first blocks. */
        private static long marks(int blocks) {
            return ALL_MARKS & (1L << SYMBOL_BITS * blocks) - 1;
        }
    }

    /** What the received words tell of the blocks. */
    private static final class Reading {
        private final int[] symbols;
        private final int[] gaps;
        private final int[] reliabilities;
        private final int[] order;
        private final int[] places;
        private int length;
        private long packedSymbols;
        private long allBlocks;

        private Reading() {
            symbols = new int[MAX_BLOCKS];
            gaps = new int[MAX_BLOCKS];
            reliabilities = new int[MAX_BLOCKS];
            order = new int[MAX_BLOCKS];
            places = new int[MAX_BLOCKS];
            length = 0;
            packedSymbols = 0;
            allBlocks = 0;
        }

        private void read(State state, InnerCode inner) {
            length = state.length;
            allBlocks = OuterCode.marks(length);
            packedSymbols = 0;
            for (int block = 0; block < length; block++) {
                readBlock(block, state, inner);
                packedSymbols |= (long) symbols[block] << SYMBOL_BITS * block;
            }
            for (int block = 0; block < length; block++) {
                places[block] = blocksBefore(block);
                order[places[block]] = block;
            }
        }

        private void readBlock(int block, State state, InnerCode inner) {
            if (state.lost[block]) {
                symbols[block] = 0;
                gaps[block] = 0;
                reliabilities[block] = 0;
            } else {
                int word = state.words[block];
                symbols[block] = inner.symbolOf(word);
                gaps[block] = inner.bitsBetween(word, symbols[block]);
                reliabilities[block] = inner.reliability(gaps[block]);
            }
        }

        private int blocksBefore(int block) {
            int before = 0;
            for (int other = 0; other < length; other++) {
                if (reliabilities[other] < reliabilities[block]
                        || reliabilities[other] == reliabilities[block] && other < block) {
                    before++;
                }
            }
            return before;
        }

        /** Marks the blocks that stay when the first s of the order are erased. */
        private long keptBlocks(int s) {
            long kept = allBlocks;
            for (int place = 0; place < s && place < length; place++) {
                kept &= ~(1L << SYMBOL_BITS * order[place]);
            }
            return kept;
        }

        /** Marks the blocks whose symbol is not that of the codeword. */
        private long differingBlocks(long codeword) {
            return OuterCode.markSymbols(codeword ^ packedSymbols) & allBlocks;
        }

        private int scoreOf(long codeword) {
            long differing = differingBlocks(codeword);
            int sum = 0;
            for (int block = 0; block < length; block++) {
                boolean differs = (differing >>> SYMBOL_BITS * block & 1) == 1;
                sum += differs ? -reliabilities[block] : reliabilities[block];
            }
            return sum;
        }
    }
}
