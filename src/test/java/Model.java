import java.util.ArrayDeque;
import java.util.ArrayList;
import java.util.Arrays;
import java.util.List;

/**
 * The document once more, word for word and without regard to cost: every trial is made, every
 * codeword compared, every bit really changed. NestedCodes is compared with it.
 */
final class Model {
    static final int INVALID = -1001;
    static final int IMPOSSIBLE = -1002;
    static final int LIMIT = -1003;
    static final int NONE = -1004;

    private static final class Saved {
        int n, k, b, sent;
        int[] generators, words;
        boolean[] lost;
    }

    private int n = 8, k = 3, b = 7, sent = 0;
    private int[] generators = {49, 82, 100, 120};
    private int[] words = new int[8];
    private boolean[] lost = new boolean[8];
    private final List<Integer> waiting = new ArrayList<>();
    private final ArrayDeque<Saved> history = new ArrayDeque<>();
    private int[][] codewords = allCodewords(8, 3);

    // ---- field and codes

    static int times(int a, int b) {
        int polynomial = 0;
        for (int i = 0; i < 4; i++) {
            for (int j = 0; j < 4; j++) {
                if ((a >> i & 1) + (b >> j & 1) == 2) polynomial ^= 1 << (i + j);
            }
        }
        for (int i = 6; i >= 4; i--) {
            if ((polynomial >> i & 1) == 1) polynomial ^= 0b10011 << (i - 4);
        }
        return polynomial;
    }

    static int power(int a, int exponent) {
        int result = 1;
        for (int i = 0; i < exponent; i++) result = times(result, a);
        return result;
    }

    private static int[][] allCodewords(int n, int k) {
        int[][] all = new int[(int) Math.pow(16, k)][n];
        for (int message = 0; message < all.length; message++) {
            int[] m = {message % 16, message / 16 % 16, message / 256};
            for (int j = 0; j < n; j++) {
                for (int i = 0; i < k; i++) all[message][j] ^= times(m[i], power(j + 1, i));
            }
        }
        return all;
    }

    private int outerDistance() { return n - k + 1; }

    private int word(int symbol) {
        int word = 0;
        for (int i = 0; i < 4; i++) {
            if ((symbol & (1 << i)) != 0) word ^= generators[i];
        }
        return word;
    }

    private int innerDistance() {
        int least = 99;
        for (int s = 1; s < 16; s++) least = Math.min(least, Integer.bitCount(word(s)));
        return least;
    }

    // ---- received

    private int symbolOfWord(int received) {
        int best = -1, gap = 99;
        for (int s = 15; s >= 0; s--) {
            int differing = Integer.bitCount(received ^ word(s));
            if (differing <= gap) {
                gap = differing;
                best = s;
            }
        }
        return best;
    }

    private int symbolAt(int j) { return lost[j] ? 0 : symbolOfWord(words[j]); }

    private int gapAt(int j) {
        return lost[j] ? 0 : Integer.bitCount(words[j] ^ word(symbolOfWord(words[j])));
    }

    private int reliabilityAt(int j) {
        return lost[j] ? 0 : Math.max(0, innerDistance() - 2 * gapAt(j));
    }

    private int[] symbols() {
        int[] row = new int[n];
        for (int j = 0; j < n; j++) row[j] = symbolAt(j);
        return row;
    }

    private int[] reliabilities() {
        int[] row = new int[n];
        for (int j = 0; j < n; j++) row[j] = reliabilityAt(j);
        return row;
    }

    private List<Integer> order() {
        int[] reliability = reliabilities();
        List<Integer> order = new ArrayList<>();
        for (int j = 0; j < n; j++) order.add(j);
        order.sort((x, y) -> reliability[x] != reliability[y] ? reliability[x] - reliability[y] : x - y);
        return order;
    }

    // ---- trials and the law

    private int resultOfTrial(int s, int[] symbols, List<Integer> order) {
        for (int message = 0; message < codewords.length; message++) {
            int e = 0;
            for (int place = s; place < n; place++) {
                int j = order.get(place);
                if (symbols[j] != codewords[message][j]) e++;
            }
            if (2 * e + s < outerDistance()) return message;
        }
        return NONE;
    }

    private int scoreOf(int message, int[] symbols, int[] reliabilities) {
        int score = 0;
        for (int j = 0; j < n; j++) {
            score += symbols[j] == codewords[message][j] ? reliabilities[j] : -reliabilities[j];
        }
        return score;
    }

    private boolean isLawful(int message, int[] symbols, int[] reliabilities) {
        return scoreOf(message, symbols, reliabilities) > innerDistance() * (n - outerDistance());
    }

    /** The deciding trial, the decoded message, the number of wasted trials. */
    private int[] decoding() {
        int[] symbols = symbols();
        int[] reliabilities = reliabilities();
        List<Integer> order = order();
        int deciding = NONE, decoded = NONE, wasted = 0;
        for (int s = 0; s < outerDistance(); s++) {
            int message = resultOfTrial(s, symbols, order);
            boolean good = message >= 0 && isLawful(message, symbols, reliabilities);
            if (!good) wasted++;
            if (good && deciding < 0) {
                deciding = s;
                decoded = message;
            }
        }
        return new int[] {deciding, decoded, wasted};
    }

    private int firstDecoded() {
        int[] symbols = symbols();
        int[] reliabilities = reliabilities();
        List<Integer> order = order();
        for (int s = 0; s < outerDistance(); s++) {
            int message = resultOfTrial(s, symbols, order);
            if (message >= 0 && isLawful(message, symbols, reliabilities)) return message;
        }
        return NONE;
    }

    // ---- changes

    private void record() {
        Saved saved = new Saved();
        saved.n = n;
        saved.k = k;
        saved.b = b;
        saved.sent = sent;
        saved.generators = generators.clone();
        saved.words = words.clone();
        saved.lost = lost.clone();
        history.addLast(saved);
        if (history.size() == 7) history.removeFirst();
    }

    private void clear() {
        words = new int[n];
        lost = new boolean[n];
        sent = 0;
    }

    int setOuter(int length, int dimension) {
        if (length < 3 || length > 12 || dimension < 1 || dimension > 3) return INVALID;
        if (dimension >= length) return INVALID;
        record();
        int previous = 10 * n + k;
        n = length;
        k = dimension;
        codewords = allCodewords(n, k);
        clear();
        return previous;
    }

    int generator(int generator) {
        if (generator < 1 || generator > 1023) return INVALID;
        if (waiting.size() == 4) return LIMIT;
        waiting.add(generator);
        return waiting.size();
    }

    int clearGenerators() {
        int size = waiting.size();
        waiting.clear();
        return size;
    }

    int setInner(int length) {
        if (length < 4 || length > 10) return INVALID;
        if (waiting.size() != 4) return IMPOSSIBLE;
        int[] before = generators;
        int[] fresh = new int[4];
        for (int i = 0; i < 4; i++) {
            fresh[i] = waiting.get(i);
            if (fresh[i] > Math.pow(2, length) - 1) return IMPOSSIBLE;
        }
        generators = fresh;
        boolean different = true;
        for (int s = 0; s < 16; s++) {
            for (int t = 0; t < s; t++) {
                if (word(s) == word(t)) different = false;
            }
        }
        generators = before;
        if (!different) return IMPOSSIBLE;
        record();
        generators = fresh;
        b = length;
        waiting.clear();
        clear();
        return innerDistance();
    }

    int undo() {
        if (history.isEmpty()) return IMPOSSIBLE;
        Saved saved = history.removeLast();
        if (n != saved.n || k != saved.k) codewords = allCodewords(saved.n, saved.k);
        n = saved.n;
        k = saved.k;
        b = saved.b;
        sent = saved.sent;
        generators = saved.generators;
        words = saved.words;
        lost = saved.lost;
        return history.size();
    }

    int count(int what) {
        int lostCount = 0, bits = 0;
        for (int j = 0; j < n; j++) {
            if (lost[j]) lostCount++;
            else bits += Integer.bitCount(words[j] ^ word(codewords[sent][j]));
        }
        int[] all = {n, k, outerDistance(), b, innerDistance(), waiting.size(), history.size(), lostCount, bits};
        return what < 0 || what > 8 ? INVALID : all[what];
    }

    private boolean badMessage(int message) { return message < 0 || message >= codewords.length; }

    private boolean badBlock(int j) { return j < 0 || j >= n; }

    int wordOf(int symbol) { return symbol < 0 || symbol > 15 ? INVALID : word(symbol); }

    int product(int a, int b) {
        return a < 0 || a > 15 || b < 0 || b > 15 ? INVALID : times(a, b);
    }

    int symbolFor(int message, int block) {
        return badMessage(message) || badBlock(block) ? INVALID : codewords[message][block];
    }

    int send(int message) {
        if (badMessage(message)) return INVALID;
        record();
        clear();
        sent = message;
        int ones = 0;
        for (int j = 0; j < n; j++) {
            words[j] = word(codewords[message][j]);
            ones += Integer.bitCount(words[j]);
        }
        return ones;
    }

    int flip(int block, int mask) {
        if (badBlock(block) || mask < 1 || mask > Math.pow(2, b) - 1) return INVALID;
        if (lost[block]) return IMPOSSIBLE;
        record();
        words[block] ^= mask;
        return gapAt(block);
    }

    int lose(int block, int value) {
        if (badBlock(block) || (value != 0 && value != 1)) return INVALID;
        record();
        int previous = lost[block] ? 1 : 0;
        lost[block] = value == 1;
        return previous;
    }

    int burst(int place, int length) {
        if (place < 0 || place >= b * n || length < 1 || length > b * n - place) return INVALID;
        record();
        boolean[] touched = new boolean[n];
        for (int at = place; at < place + length; at++) {
            words[at / b] ^= 1 << (at % b);
            touched[at / b] = true;
        }
        int count = 0;
        for (boolean t : touched) if (t) count++;
        return count;
    }

    int sendCascade() {
        int decoded = firstDecoded();
        if (decoded < 0) return IMPOSSIBLE;
        record();
        sent = decoded;
        int changed = 0;
        for (int j = 0; j < n; j++) {
            int clean = word(codewords[decoded][j]);
            int errors = words[j] ^ clean;
            words[j] = clean;
            for (int i = 0; i < b; i++) {
                if ((errors >> i & 1) == 1) {
                    words[j] ^= 1 << ((i + 1) % b);
                    changed++;
                }
            }
        }
        return changed;
    }

    // ---- questions

    int received(int block) { return badBlock(block) ? INVALID : lost[block] ? NONE : words[block]; }

    int sent() { return sent; }

    int block(int block, int what) {
        if (badBlock(block) || what < 0 || what > 4) return INVALID;
        if (what == 0) return symbolAt(block);
        if (what == 1) return gapAt(block);
        if (what == 2) return reliabilityAt(block);
        if (what == 3) return order().indexOf(block);
        return symbolAt(block) == codewords[sent][block] ? 1 : 0;
    }

    int blockAt(int place) { return badBlock(place) ? INVALID : order().get(place); }

    int strength(int block) {
        if (badBlock(block)) return INVALID;
        if (lost[block]) return IMPOSSIBLE;
        int least = 99;
        for (int other = 0; other < 1 << b; other++) {
            if (symbolOfWord(other) != symbolOfWord(words[block])) {
                least = Math.min(least, Integer.bitCount(other ^ words[block]));
            }
        }
        return least;
    }

    int trial(int s) {
        return s < 0 || s >= outerDistance() ? INVALID : resultOfTrial(s, symbols(), order());
    }

    int score(int message) {
        return badMessage(message) ? INVALID : scoreOf(message, symbols(), reliabilities());
    }

    int lawful() {
        int[] symbols = symbols();
        int[] reliabilities = reliabilities();
        int bound = innerDistance() * (n - outerDistance());
        int count = 0;
        for (int message = 0; message < codewords.length; message++) {
            if (scoreOf(message, symbols, reliabilities) > bound) count++;
        }
        return count;
    }

    int decode() { return decoding()[1]; }

    int decidingTrial() { return decoding()[0]; }

    int margin() {
        int decoded = decode();
        return decoded < 0 ? NONE : score(decoded) - innerDistance() * (n - outerDistance());
    }

    int wastedTrials() { return decoding()[2]; }

    int isGuaranteed() {
        return 2 * count(8) + innerDistance() * count(7) < innerDistance() * outerDistance() ? 1 : 0;
    }

    int fragileBits() {
        int count = 0;
        for (int j = 0; j < n; j++) {
            for (int i = 0; i < b && !lost[j]; i++) {
                words[j] ^= 1 << i;
                if (firstDecoded() != sent) count++;
                words[j] ^= 1 << i;
            }
        }
        return count;
    }

    int fragileBlocks() {
        int count = 0;
        for (int j = 0; j < n; j++) {
            boolean before = lost[j];
            lost[j] = true;
            if (firstDecoded() != sent) count++;
            lost[j] = before;
        }
        return count;
    }

    int nearest(int what) {
        if (what != 0 && what != 1) return INVALID;
        int decoded = decode();
        if (decoded < 0) return NONE;
        int least = 99, nearest = NONE;
        for (int message = 0; message < codewords.length; message++) {
            int difference = 0;
            for (int j = 0; j < n; j++) {
                if (codewords[message][j] != codewords[decoded][j]) difference++;
            }
            if (message != decoded && difference < least) {
                least = difference;
                nearest = message;
            }
        }
        return what == 0 ? least : nearest;
    }

    /** For a run's own choice of calls: what is legal now. */
    int blocks() { return n; }

    int bits() { return b; }

    int messages() { return codewords.length; }

    @Override
    public String toString() {
        return "n=" + n + " k=" + k + " b=" + b + " generators=" + Arrays.toString(generators)
            + " sent=" + sent + " words=" + Arrays.toString(words) + " lost=" + Arrays.toString(lost);
    }
}
