/**
 * Boundary cases of the codes: Field, Outer code, Inner code, and the promises 1 to 5 and 7 to 10.
 * Each test names the promise or section and the sentence that it stands for.
 */
public final class CodesBoundaryTests extends TestCase {
    public static void main(String[] args) {
        CodesBoundaryTests tests = new CodesBoundaryTests();
        tests.field();
        tests.outerCode();
        tests.innerCode();
        tests.newObject();
        tests.setOuter();
        tests.generator();
        tests.clearGenerators();
        tests.setInner();
        tests.count();
        tests.wordOf();
        tests.product();
        tests.symbolFor();
        tests.check.finish();
    }

    // ---- Field

    private void field() {
        section("Field", "every number to the power 0 is 1");
        NestedCodes x = with(12, 1);
        for (int message = 0; message <= 15; message++) {
            for (int block = 0; block <= 11; block++) {
                due("symbolFor(" + message + ", " + block + ")", x.symbolFor(message, block), message);
            }
        }
        section("Field", "the sum of two numbers is their bitwise exclusive or");
        NestedCodes y = with(12, 3);
        due("15 + 15 * 1", y.symbolFor(255, 0), 0);
        due("15 + 15 * 1 + 15 * 1", y.symbolFor(4095, 0), 15);
        due("15 + 0 * 1 + 8 * 1", y.symbolFor(15 + 256 * 8, 0), 7);
        section("Field", "modulo the polynomial x^4 + x + 1");
        due("x * x^2, the last below x^4", y.product(2, 4), 8);
        due("x * (x^2 + x + 1)", y.product(2, 7), 14);
        due("x * x^3 = x^4", y.product(2, 8), 3);
        due("x^2 * x^3", y.product(4, 8), 6);
        due("x^3 * x^3", y.product(8, 8), 12);
        due("the highest of all", y.product(15, 15), 10);
        due("12 to the power 2 is 15: m(2) in the last block", y.symbolFor(256, 11), 15);
    }

    // ---- Outer code

    private void outerCode() {
        section("Outer code", "a length n (3 to 12, initially 8)");
        due("n of a new object", new NestedCodes().count(0), 8);
        due("n, the least", with(3, 1).count(0), 3);
        due("n, the greatest", with(12, 1).count(0), 12);
        section("Outer code", "a dimension k (1 to 3, less than n, initially 3)");
        due("k of a new object", new NestedCodes().count(1), 3);
        due("k, the least", with(4, 1).count(1), 1);
        due("k, the greatest", with(4, 3).count(1), 3);
        section("Outer code", "the symbol of block j, for j from 0 to n - 1");
        due("block 0, the number 1", with(3, 2).symbolFor(16, 0), 1);
        due("block 2, the number 3", with(3, 2).symbolFor(16, 2), 3);
        due("block 11, the number 12", with(12, 2).symbolFor(16, 11), 12);
        section("Outer code", "The outer distance D is n - k + 1");
        due("D, the least", with(3, 2).count(2), 2);
        due("D of 4 and 3", with(4, 3).count(2), 2);
        due("D, the greatest", with(12, 1).count(2), 12);
        outerDistance(3, 2);
        outerDistance(3, 1);
        outerDistance(4, 3);
        outerDistance(12, 3);
    }

    /** Sums of codewords are codewords, so comparing with the codeword 0 is enough. */
    private void outerDistance(int n, int k) {
        section("Outer code", "two different codewords differ in at least D blocks");
        int least = n;
        for (int message = 1; message < 1 << 4 * k; message++) {
            NestedCodes x = with(n, k);
            int differing = 0;
            for (int block = 0; block < n; block++) {
                if (x.symbolFor(message, block) != 0) {
                    differing++;
                }
            }
            least = Math.min(least, differing);
        }
        due("the least difference for " + n + " and " + k, least, n - k + 1);
    }

    // ---- Inner code

    private void innerCode() {
        section("Inner code", "a length b (4 to 10 bits, initially 7)");
        due("b of a new object", new NestedCodes().count(3), 7);
        due("b, the least", bare(3, 1).count(3), 4);
        due("b, the greatest", wide(3, 1).count(3), 10);
        section("Inner code", "four generators, numbers from 1 to 2^b - 1, initially 49, 82, 100 and 120");
        int[] initially = {49, 82, 100, 120};
        for (int i = 0; i < 4; i++) {
            due("generator " + i, new NestedCodes().wordOf(1 << i), initially[i]);
        }
        section("Inner code", "exclusive or of those generators whose bit is set in s");
        due("no bit set", wide(3, 1).wordOf(0), 0);
        due("the lowest bit set", wide(3, 1).wordOf(1), 1023);
        due("the highest bit set", wide(3, 1).wordOf(8), 819);
        due("all bits set", wide(3, 1).wordOf(15), 1023 ^ 31 ^ 341 ^ 819);
        section("Inner code", "the least number of ones in a word of a symbol other than 0");
        due("d of a new object, not that of the word 0", new NestedCodes().count(4), 3);
        due("d, the least", bare(3, 1).count(4), 1);
        due("d, the greatest", wide(3, 1).count(4), 4);
        due("d by symbol 1 alone", with(3, 1, 10, 3, 117, 411, 748).count(4), 2);
        due("d by symbol 15 alone", with(3, 1, 8, 15, 51, 85, 104).count(4), 1);
    }

    // ---- Promise 1

    private void newObject() {
        promise(1, "Creates both codes with their initial values, all words 0.");
        NestedCodes x = new NestedCodes();
        for (int block = 0; block < 8; block++) {
            due("received(" + block + ")", x.received(block), 0);
        }
        due("received(8), no block", x.received(8), INVALID);
        due("what was sent", x.sent(), 0);
        due("an empty row of generators", x.count(5), 0);
        due("an empty history", x.count(6), 0);
        due("no block is lost", x.count(7), 0);
        due("nothing to undo", x.undo(), IMPOSSIBLE);
        due("nothing to clear", x.clearGenerators(), 0);
    }

    // ---- Promise 2

    private void setOuter() {
        promise(2, "`length`: 3 to 12");
        refusedAtLimits("setOuter(2, 1)", INVALID, x -> x.setOuter(2, 1));
        refusedAtLimits("setOuter(13, 3)", INVALID, x -> x.setOuter(13, 3));
        refused("setOuter(0, 1)", INVALID, x -> x.setOuter(0, 1));
        refused("setOuter(-3, 1)", INVALID, x -> x.setOuter(-3, 1));
        refused("setOuter(least, 1)", INVALID, x -> x.setOuter(LEAST, 1));
        refused("setOuter(greatest, 1)", INVALID, x -> x.setOuter(GREATEST, 1));
        due("setOuter(3, 1)", new NestedCodes().setOuter(3, 1), 83);
        due("setOuter(12, 1)", new NestedCodes().setOuter(12, 1), 83);
        promise(2, "`dimension`: 1 to 3");
        refusedAtLimits("setOuter(12, 0)", INVALID, x -> x.setOuter(12, 0));
        refusedAtLimits("setOuter(12, 4)", INVALID, x -> x.setOuter(12, 4));
        refused("setOuter(12, -1)", INVALID, x -> x.setOuter(12, -1));
        refused("setOuter(12, least)", INVALID, x -> x.setOuter(12, LEAST));
        refused("setOuter(12, greatest)", INVALID, x -> x.setOuter(12, GREATEST));
        due("setOuter(12, 1)", new NestedCodes().setOuter(12, 1), 83);
        due("setOuter(12, 3)", new NestedCodes().setOuter(12, 3), 83);
        promise(2, "less than length");
        refusedAtLimits("setOuter(3, 3)", INVALID, x -> x.setOuter(3, 3));
        refused("setOuter(2, 2)", INVALID, x -> x.setOuter(2, 2));
        due("setOuter(3, 2)", new NestedCodes().setOuter(3, 2), 83);
        due("setOuter(4, 3)", new NestedCodes().setOuter(4, 3), 83);
        promise(2, "Returns 10 times the previous n plus the previous k");
        NestedCodes x = with(3, 1);
        due("after the least", x.setOuter(12, 3), 31);
        due("after the greatest", x.setOuter(12, 3), 123);
        setOuterClears();
    }

    private void setOuterClears() {
        promise(2, "The received words and the sent message become 0, no block is lost.");
        NestedCodes x = wide(12, 3);
        x.send(4095);
        x.burst(0, 120);
        lost(x);
        x.setOuter(12, 3);
        cleared(x, "the same code");
        x.send(4095);
        lost(x);
        x.setOuter(3, 1);
        cleared(x, "a shorter code");
        x.setOuter(12, 3);
        cleared(x, "the blocks that are there again");
        due("the inner code stays", x.count(3), 10);
        NestedCodes y = waiting(1, 2, 4, 8);
        y.setOuter(3, 1);
        due("the generators wait on", y.count(5), 4);
    }

    private void cleared(NestedCodes x, String when) {
        due(when + ": sent()", x.sent(), 0);
        due(when + ": lost blocks", x.count(7), 0);
        for (int block = 0; block < x.count(0); block++) {
            due(when + ": received(" + block + ")", x.received(block), 0);
        }
    }

    // ---- Promise 3

    private void generator() {
        promise(3, "`generator`: 1 to 1023");
        for (int wrong : new int[] {0, 1024, -1, -1023, LEAST, GREATEST}) {
            refused("generator(" + wrong + ")", INVALID, x -> x.generator(wrong));
        }
        due("generator(1)", new NestedCodes().generator(1), 1);
        due("generator(1023)", new NestedCodes().generator(1023), 1);
        due("more bits than b now", bare(3, 1).generator(1023), 1);
        promise(3, "Returns the number of waiting generators");
        NestedCodes x = new NestedCodes();
        for (int i = 1; i <= 4; i++) {
            due("generator " + i + " in an empty row", x.generator(i), i);
        }
        promise(3, "LIMIT_REACHED if there are 4");
        Start full = () -> waiting(16, 32, 64, 128);
        refused(full, "generator(1) of a full row", LIMIT, y -> y.generator(1));
        refused(full, "generator(1023) of a full row", LIMIT, y -> y.generator(1023));
        due("generator(1) with three", waiting(16, 32, 64).generator(1), 4);
        NestedCodes z = waiting(1, 2, 4, 8);
        due("a fifth", z.generator(16), LIMIT);
        due("the row is cleared", z.clearGenerators(), 4);
        due("the row takes again", z.generator(16), 1);
        NestedCodes w = bare(4, 1);
        due("the row takes again after setInner", w.generator(16), 1);
        section("Changes and errors", "INVALID_ARGUMENT is returned rather than NOT_POSSIBLE,"
            + " NOT_POSSIBLE rather than LIMIT_REACHED");
        refused(full, "generator(0) of a full row", INVALID, y -> y.generator(0));
        refused(full, "generator(1024) of a full row", INVALID, y -> y.generator(1024));
        promise(3, "(This is no change.)");
        due("history", waiting(1).count(6), used().count(6));
    }

    // ---- Promise 4

    private void clearGenerators() {
        promise(4, "Returns the number of generators that were waiting.");
        due("an empty row", new NestedCodes().clearGenerators(), 0);
        due("one", waiting(1).clearGenerators(), 1);
        due("a full row", waiting(1, 2, 4, 8).clearGenerators(), 4);
        promise(4, "Empties the row of waiting generators.");
        for (int i = 0; i <= 4; i++) {
            NestedCodes x = new NestedCodes();
            for (int j = 0; j < i; j++) {
                x.generator(1);
            }
            x.clearGenerators();
            due("after " + i, x.count(5), 0);
            due("once more", x.clearGenerators(), 0);
            due("setInner then", x.setInner(4), IMPOSSIBLE);
        }
        promise(4, "(This is no change.)");
        NestedCodes y = new NestedCodes();
        y.generator(1);
        y.clearGenerators();
        due("undo", y.undo(), IMPOSSIBLE);
    }

    // ---- Promise 5

    private void setInner() {
        promise(5, "`length`: 4 to 10");
        Start units = () -> waiting(1, 2, 4, 8);
        for (int wrong : new int[] {3, 11, 0, -4, LEAST, GREATEST, 36}) {
            refused(units, "setInner(" + wrong + ")", INVALID, x -> x.setInner(wrong));
        }
        for (int length = 4; length <= 10; length++) {
            NestedCodes x = units.make();
            due("setInner(" + length + ")", x.setInner(length), 1);
            due("b", x.count(3), length);
        }
        promise(5, "NOT_POSSIBLE if not 4 generators are waiting");
        refused(() -> waiting(), "setInner(4) with an empty row", IMPOSSIBLE, x -> x.setInner(4));
        refused(() -> waiting(1), "setInner(10) with one", IMPOSSIBLE, x -> x.setInner(10));
        refused(() -> waiting(1, 2, 4), "setInner(10) with three", IMPOSSIBLE, x -> x.setInner(10));
        due("setInner(10) with four", units.make().setInner(10), 1);
        promise(5, "which do not wait any more then");
        refused(() -> bare(4, 1), "setInner(4) once more", IMPOSSIBLE, x -> x.setInner(4));
        due("an empty row", bare(4, 1).count(5), 0);
        section("Changes and errors", "INVALID_ARGUMENT is returned rather than NOT_POSSIBLE");
        refused(() -> waiting(), "setInner(3) with an empty row", INVALID, x -> x.setInner(3));
        refused(() -> waiting(1, 2, 4), "setInner(11) with three", INVALID, x -> x.setInner(11));
        refused(() -> waiting(1, 1, 1, 1), "setInner(11) of equal ones", INVALID, x -> x.setInner(11));
        generatorsWithMoreBits();
        wordsThatAreEqual();
        setInnerClears();
    }

    private void generatorsWithMoreBits() {
        promise(5, "one of them has more bits");
        for (int b = 4; b <= 9; b++) {
            int length = b;
            int over = 1 << b;
            int[][] rows = {{over, 2, 4, 8}, {1, over, 4, 8}, {1, 2, over, 8}, {1, 2, 4, over}};
            for (int[] row : rows) {
                refused(() -> waiting(row), "setInner(" + b + ") with " + over, IMPOSSIBLE,
                    x -> x.setInner(length));
                due("setInner(" + (b + 1) + ") with " + over, waiting(row).setInner(b + 1), 1);
            }
        }
        for (int b = 4; b <= 10; b++) {
            NestedCodes x = waiting((1 << b) - 1, 2, 4, 8);
            due("setInner(" + b + ") with " + ((1 << b) - 1), x.setInner(b), 1);
            due("the word of 1", x.wordOf(1), (1 << b) - 1);
        }
        refused(() -> waiting(1023, 31, 341, 819), "setInner(9)", IMPOSSIBLE, x -> x.setInner(9));
        due("setInner(10)", waiting(1023, 31, 341, 819).setInner(10), 4);
    }

    private void wordsThatAreEqual() {
        promise(5, "or the 16 words would not all be different");
        int[][] rows = {
            {5, 5, 2, 8}, {5, 2, 5, 8}, {5, 2, 8, 5}, {2, 5, 5, 8}, {2, 5, 8, 5}, {2, 8, 5, 5},
            {1, 2, 3, 8}, {1, 2, 8, 3}, {1, 8, 2, 3}, {8, 1, 2, 3}, {1, 2, 4, 7}, {7, 7, 7, 7}
        };
        for (int[] row : rows) {
            refused(() -> waiting(row), "setInner(4)", IMPOSSIBLE, x -> x.setInner(4));
            refused(() -> waiting(row), "setInner(10)", IMPOSSIBLE, x -> x.setInner(10));
        }
        due("all different", waiting(1, 2, 4, 15).setInner(4), 1);
        section("Inner code", "The 16 words are all different.");
        NestedCodes y = waiting(9, 10, 12, 8);
        due("setInner(4)", y.setInner(4), 1);
        int seen = 0;
        for (int symbol = 0; symbol < 16; symbol++) {
            seen |= 1 << y.wordOf(symbol);
        }
        due("all words of four bits", seen, 0xffff);
    }

    private void setInnerClears() {
        promise(5, "The received words and the sent message become 0, no block is lost.");
        NestedCodes x = wide(12, 3);
        x.send(4095);
        x.burst(0, 120);
        lost(x);
        for (int i = 0; i < 4; i++) {
            x.generator(1 << i);
        }
        x.setInner(4);
        cleared(x, "a shorter word");
        due("the outer code stays", x.count(0) * 10 + x.count(1), 123);
        x.send(4095);
        lost(x);
        for (int i = 0; i < 4; i++) {
            x.generator(1 << i);
        }
        x.setInner(4);
        cleared(x, "the same code");
        promise(5, "by the four waiting generators, in the order in which they came");
        NestedCodes y = waiting(8, 1, 4, 2);
        y.setInner(4);
        int[] came = {8, 1, 4, 2};
        for (int i = 0; i < 4; i++) {
            due("generator " + i, y.wordOf(1 << i), came[i]);
        }
        promise(5, "Returns the inner distance");
        due("the least", waiting(1, 2, 4, 8).setInner(10), 1);
        due("the greatest", waiting(1023, 31, 341, 819).setInner(10), 4);
    }

    // ---- Promise 7

    private void count() {
        promise(7, "INVALID_ARGUMENT if what is out of range");
        for (int wrong : new int[] {-1, 9, LEAST, GREATEST}) {
            refusedAtLimits("count(" + wrong + ")", INVALID, x -> x.count(wrong));
        }
        promise(7, "`what`: 0: n");
        due("the least what", bare(3, 1).count(0), 3);
        promise(7, "3: b; 4: d; 5: waiting generators; 6: states in the history; 7: lost blocks");
        NestedCodes x = lost(wide(12, 1));
        due("all blocks lost", x.count(7), 12);
        due("one more change than the history holds", x.count(6), 6);
        due("a full row", waiting(1, 2, 4, 8).count(5), 4);
        promise(7, "8: bits in which the received words differ from what was sent,"
            + " lost blocks not counted");
        due("the greatest what, all blocks lost", x.count(8), 0);
        NestedCodes y = wide(12, 3);
        due("no bit", y.count(8), 0);
        y.burst(0, 120);
        due("all bits", y.count(8), 120);
        y.lose(11, 1);
        due("all bits but those of the last block", y.count(8), 110);
        lost(y);
        due("all wrong, all lost", y.count(8), 0);
        y.lose(0, 0);
        due("all wrong, all but block 0 lost", y.count(8), 10);
        y.send(4095);
        due("after send", y.count(8), 0);
    }

    // ---- Promise 8

    private void wordOf() {
        promise(8, "`symbol`: 0 to 15");
        for (int wrong : new int[] {-1, 16, LEAST, GREATEST}) {
            refusedAtLimits("wordOf(" + wrong + ")", INVALID, x -> x.wordOf(wrong));
        }
        due("wordOf(0)", new NestedCodes().wordOf(0), 0);
        due("wordOf(15)", new NestedCodes().wordOf(15), 127);
        due("wordOf(15) of four bits", bare(3, 1).wordOf(15), 15);
    }

    // ---- Promise 9

    private void product() {
        promise(9, "`a`: 0 to 15");
        NestedCodes y = new NestedCodes();
        for (int wrong : new int[] {-1, 16, LEAST, GREATEST}) {
            refused("product(" + wrong + ", 1)", INVALID, x -> x.product(wrong, 1));
        }
        due("product(0, 15)", y.product(0, 15), 0);
        due("product(15, 1)", y.product(15, 1), 15);
        promise(9, "`b`: 0 to 15");
        for (int wrong : new int[] {-1, 16, LEAST, GREATEST}) {
            refused("product(1, " + wrong + ")", INVALID, x -> x.product(1, wrong));
            refused("product(16, " + wrong + ")", INVALID, x -> x.product(16, wrong));
        }
        due("product(0, 0)", y.product(0, 0), 0);
        due("product(15, 0)", y.product(15, 0), 0);
        due("product(1, 15)", y.product(1, 15), 15);
        due("product(15, 15)", y.product(15, 15), 10);
    }

    // ---- Promise 10

    private void symbolFor() {
        promise(10, "where those from m(k) on are 0");
        for (int k = 1; k <= 3; k++) {
            int above = 1 << 4 * k;
            int dimension = k;
            Start start = () -> with(12, dimension);
            for (int wrong : new int[] {-1, above, LEAST, GREATEST}) {
                refused(start, "symbolFor(" + wrong + ", 0) for " + k, INVALID, x -> x.symbolFor(wrong, 0));
            }
            due("symbolFor(0, 11) for " + k, start.make().symbolFor(0, 11), 0);
            int[] sums = {15, 0, 15};
            due("symbolFor of the greatest, 0 for " + k, start.make().symbolFor(above - 1, 0), sums[k - 1]);
        }
        promise(10, "`block`: number of a block");
        for (int n : new int[] {3, 8, 12}) {
            Start start = () -> with(n, 2);
            for (int wrong : new int[] {-1, n, LEAST, GREATEST}) {
                refused(start, "symbolFor(0, " + wrong + ") of " + n, INVALID, x -> x.symbolFor(0, wrong));
            }
            due("symbolFor(16, 0) of " + n, start.make().symbolFor(16, 0), 1);
            due("symbolFor(16, last) of " + n, start.make().symbolFor(16, n - 1), n);
        }
        due("of a lost block", lost(with(3, 2)).symbolFor(16, 2), 3);
        section("Changes and errors", "If there is no block with a certain number, this is INVALID_ARGUMENT.");
        NestedCodes x = with(12, 1);
        x.setOuter(3, 1);
        due("block 3, which was there before", x.symbolFor(0, 3), INVALID);
        x.undo();
        due("block 11, which is there again", x.symbolFor(15, 11), 15);
        due("block 12", x.symbolFor(15, 12), INVALID);
    }
}
