/**
 * Boundary cases of what is received: the section Received, and the promises 18 to 20. Each test
 * names the promise or section and the sentence that it stands for.
 */
public final class BlocksBoundaryTests extends TestCase {
    public static void main(String[] args) {
        BlocksBoundaryTests tests = new BlocksBoundaryTests();
        tests.initially();
        tests.gaps();
        tests.symbols();
        tests.reliabilities();
        tests.lostBlocks();
        tests.order();
        tests.block();
        tests.blockIsRight();
        tests.blockAt();
        tests.strength();
        tests.strengthOfTies();
        tests.check.finish();
    }

    /** Symbol, gap and reliability of a block. */
    private void reads(NestedCodes x, int block, int symbol, int gap, int reliability) {
        String name = "block " + block + ", received " + x.received(block);
        due(name + ": symbol", x.block(block, 0), symbol);
        due(name + ": gap", x.block(block, 1), gap);
        due(name + ": reliability", x.block(block, 2), reliability);
    }

    // ---- Received

    private void initially() {
        section("Received", "For each block there is a received word, b bits, initially all 0,"
            + " and a block can be lost, initially none is.");
        for (int block = 0; block < 8; block++) {
            reads(new NestedCodes(), block, 0, 0, 3);
        }
        section("Received", "initially all its numbers are 0");
        due("sent()", new NestedCodes().sent(), 0);
    }

    private void gaps() {
        section("Received",
            "the least number of bits in which its received word and the word of some symbol differ");
        NestedCodes x = wide(12, 1);
        int[] words = {0, 1, 3, 35};
        due("no bit", x.block(11, 1), 0);
        for (int gap = 1; gap < 4; gap++) {
            due("flip(11, " + words[gap] + ")", x.flip(11, words[gap]), gap);
            x.undo();
        }
        due("all bits, the word of symbol 1", x.flip(0, 1023), 0);
        due("all bits but the highest", x.flip(0, 512), 1);
        NestedCodes y = loose(3, 1);
        due("the bits that tell nothing", y.flip(0, 1008), 6);
        due("all bits", y.flip(1, 1023), 6);
    }

    private void symbols() {
        section("Received", "the symbol of the block is the lowest one for which this is so");
        NestedCodes x = doubled(12, 1);
        x.flip(0, 1);
        reads(x, 0, 0, 1, 0);
        x.flip(0, 254);
        reads(x, 0, 15, 0, 2);
        x.flip(0, 1);
        reads(x, 0, 14, 1, 0);
        x.flip(11, 85);
        reads(x, 11, 0, 4, 0);
        x.flip(11, 128);
        reads(x, 11, 8, 3, 0);
        // Three bits of 10: symbol 0 and the symbol 2, whose word is 31, are two bits and more off.
        NestedCodes y = wide(3, 1);
        y.flip(0, 3);
        reads(y, 0, 0, 2, 0);
        y.flip(0, 4);
        reads(y, 0, 2, 2, 0);
    }

    private void reliabilities() {
        section("Received", "The reliability of the block is d minus 2 times its gap, but at least 0.");
        NestedCodes three = new NestedCodes();
        three.flip(0, 1);
        reads(three, 0, 0, 1, 1);
        reads(three, 1, 0, 0, 3);
        NestedCodes four = wide(3, 1);
        reads(four, 0, 0, 0, 4);
        four.flip(0, 1);
        reads(four, 0, 0, 1, 2);
        four.flip(0, 2);
        reads(four, 0, 0, 2, 0);
        four.flip(1, 35);
        due("4 minus 2 times 3", four.block(1, 2), 0);
        NestedCodes two = doubled(3, 1);
        two.flip(0, 1);
        reads(two, 0, 0, 1, 0);
        two.flip(0, 4);
        reads(two, 0, 0, 2, 0);
        NestedCodes one = loose(3, 1);
        reads(one, 0, 0, 0, 1);
        one.flip(0, 16);
        reads(one, 0, 0, 1, 0);
        one.flip(0, 992);
        reads(one, 0, 0, 6, 0);
        NestedCodes odd = with(3, 1, 10, 63, 455, 601, 821);
        odd.flip(0, 3);
        due("3 minus 2 times 2", odd.block(0, 2), 0);
        odd.flip(1, 1);
        due("3 minus 2 times 1", odd.block(1, 2), 1);
    }

    private void lostBlocks() {
        section("Received", "A lost block has the symbol 0, the gap 0 and the reliability 0");
        NestedCodes x = wide(12, 1);
        x.send(15);
        x.burst(1, 2);
        x.burst(111, 1);
        lost(x);
        for (int block = 0; block < 12; block++) {
            for (int what = 0; what < 3; what++) {
                due("block(" + block + ", " + what + ")", x.block(block, what), 0);
            }
            due("place of " + block, x.block(block, 3), block);
            due("blockAt(" + block + ")", x.blockAt(block), block);
        }
        section("Received",
            "apart from that it is a block like any other (in the order, in trials and scores)");
        NestedCodes y = bare(3, 1);
        y.lose(2, 1);
        due("trial(0) of 0, 0, lost", y.trial(0), 0);
        due("a right symbol adds nothing", y.score(0), 2);
        due("a wrong symbol takes nothing", y.score(7), -2);
        y.flip(0, 5);
        due("trial(0) of 5, 0, lost", y.trial(0), 0);
        due("trial(1) of 5, 0, lost", y.trial(1), NONE);
        NestedCodes z = loose(3, 1);
        z.flip(0, 16);
        z.lose(1, 1);
        due("lost behind one with reliability 0", z.blockAt(0), 0);
        due("lost before one with reliability 1", z.blockAt(1), 1);
    }

    private void order() {
        section("Received",
            "The order of the blocks is by ascending reliability, of equal ones by ascending number.");
        NestedCodes x = wide(12, 1);
        x.lose(11, 1);
        due("the last comes first", x.blockAt(0), 11);
        due("then the first", x.blockAt(1), 0);
        due("then up to the one before the last", x.blockAt(11), 10);
        x.flip(10, 1);
        x.flip(0, 1);
        x.flip(9, 3);
        int[] order = {9, 11, 0, 10, 1, 2, 3, 4, 5, 6, 7, 8};
        for (int place = 0; place < 12; place++) {
            due("blockAt(" + place + ")", x.blockAt(place), order[place]);
            due("place of block " + order[place], x.block(order[place], 3), place);
        }
        NestedCodes y = new NestedCodes();
        y.burst(0, 1);
        y.burst(7, 49);
        due("a block with its lowest bit wrong", y.blockAt(0), 0);
        due("all bits wrong, but a word of a symbol", y.block(7, 3), 7);
    }

    // ---- Promise 18

    private void block() {
        promise(18, "`block`: number of a block");
        int[] lengths = {3, 8, 12};
        for (int n : lengths) {
            for (int what = 0; what <= 4; what++) {
                int property = what;
                Start start = () -> lost(with(n, 2));
                for (int wrong : new int[] {-1, n, LEAST, GREATEST}) {
                    refused(start, "block(" + wrong + ", " + what + ") of " + n, INVALID,
                        x -> x.block(wrong, property));
                }
            }
            int[] last = {0, 0, 3, n - 1, 1};
            for (int what = 0; what <= 4; what++) {
                due("block(last, " + what + ") of " + n, with(n, 2).block(n - 1, what), last[what]);
            }
        }
        promise(18, "`what`: 0: its symbol; 1: its gap; 2: its reliability; 3: its place in the order");
        for (int wrong : new int[] {-1, 5, LEAST, GREATEST}) {
            refusedAtLimits("block(0, " + wrong + ")", INVALID, x -> x.block(0, wrong));
            refusedAtLimits("block(2, " + wrong + ")", INVALID, x -> x.block(2, wrong));
            refusedAtLimits("block(12, " + wrong + ")", INVALID, x -> x.block(12, wrong));
        }
    }

    private void blockIsRight() {
        promise(18, "4: 1 if its symbol (0 if it is lost) is the one that was sent, otherwise 0");
        NestedCodes x = new NestedCodes();
        x.send(16);
        for (int block = 0; block < 8; block++) {
            due("right", x.block(block, 4), 1);
        }
        x.flip(0, 1);
        due("a wrong bit, yet the right symbol", x.block(0, 4), 1);
        x.flip(0, 2);
        due("two wrong bits", x.block(0, 4), 0);
        x.lose(1, 1);
        due("lost, and 2 was sent", x.block(1, 4), 0);
        // The message 273 is x^2 + x + 1, which is 0 at the numbers 6 and 7 alone.
        NestedCodes y = new NestedCodes();
        y.send(273);
        lost(y);
        for (int block = 0; block < 8; block++) {
            due("lost block " + block, y.block(block, 4), block == 5 || block == 6 ? 1 : 0);
        }
    }

    // ---- Promise 19

    private void blockAt() {
        promise(19, "`place`: 0 to n - 1");
        int[] lengths = {3, 8, 12};
        for (int n : lengths) {
            Start start = () -> with(n, 1);
            for (int wrong : new int[] {-1, n, LEAST, GREATEST}) {
                refused(start, "blockAt(" + wrong + ") of " + n, INVALID, x -> x.blockAt(wrong));
                refused(() -> lost(start.make()), "blockAt(" + wrong + ") of " + n + " lost", INVALID,
                    x -> x.blockAt(wrong));
            }
            due("blockAt(0) of " + n, start.make().blockAt(0), 0);
            due("blockAt(last) of " + n, start.make().blockAt(n - 1), n - 1);
            NestedCodes y = start.make();
            y.lose(n - 1, 1);
            due("blockAt(0) when the last is lost", y.blockAt(0), n - 1);
            due("blockAt(last) when the last is lost", y.blockAt(n - 1), n - 2);
        }
    }

    // ---- Promise 20

    private void strength() {
        promise(20, "NOT_POSSIBLE if the block is lost");
        int[] lengths = {3, 8, 12};
        for (int n : lengths) {
            Start start = () -> lost(with(n, 2));
            refused(start, "strength(0) of " + n, IMPOSSIBLE, x -> x.strength(0));
            refused(start, "strength(last) of " + n, IMPOSSIBLE, x -> x.strength(n - 1));
            NestedCodes y = start.make();
            y.lose(n - 1, 0);
            due("strength(last) of " + n + ", back", y.strength(n - 1), 2);
            promise(20, "`block`: number of a block");
            for (int wrong : new int[] {-1, n, LEAST, GREATEST}) {
                refused(start, "strength(" + wrong + ") of " + n, INVALID, x -> x.strength(wrong));
                refused(() -> with(n, 2), "strength(" + wrong + ")", INVALID, x -> x.strength(wrong));
            }
            due("strength(0) of " + n, with(n, 2).strength(0), 2);
            promise(20, "NOT_POSSIBLE if the block is lost");
        }
    }

    private void strengthOfTies() {
        promise(20, "the least number of bits that must be changed in the received word of a block"
            + " so that its symbol is another one");
        NestedCodes x = doubled(12, 1);
        due("symbol 0 keeps a tie, so two bits", x.strength(0), 2);
        x.flip(11, 192);
        due("symbol 8 loses a tie, so one bit", x.strength(11), 1);
        x.flip(1, 64);
        due("symbol 0 at a tie with 8", x.strength(1), 1);
        x.flip(2, 85);
        due("symbol 0 at a tie with all", x.strength(2), 1);
        NestedCodes y = wide(3, 1);
        due("symbol 0, other words four bits away", y.strength(0), 3);
        y.flip(0, 1);
        due("three bits nearer than a higher one", y.strength(0), 2);
        y.flip(0, 2);
        due("a bit nearer than a higher one", y.strength(0), 1);
        y.flip(1, 204);
        due("symbol 9", y.block(1, 0), 9);
        due("symbol 9, lower ones four bits away", y.strength(1), 2);
        y.flip(1, 1);
        due("three bits nearer than a lower one", y.strength(1), 2);
        // 992, of symbol 3, is five bits from 0 and from 1023, and four from 682, 812 and 614.
        y.flip(2, 992);
        due("symbol 3", y.block(2, 0), 3);
        due("higher ones four bits away, lower ones five", y.strength(2), 3);
        NestedCodes z = loose(3, 1);
        due("a single bit", z.strength(0), 1);
        z.flip(0, 1008);
        due("a single bit, whatever the others are", z.strength(0), 1);
    }
}
