/**
 * Boundary cases of sending: the promises 11 to 17. Each test names the promise and the sentence
 * that it stands for.
 */
public final class SendingBoundaryTests extends TestCase {
    public static void main(String[] args) {
        SendingBoundaryTests tests = new SendingBoundaryTests();
        tests.send();
        tests.flip();
        tests.flipOfLostBlocks();
        tests.lose();
        tests.loseKeeps();
        tests.burstPlaces();
        tests.burstLengths();
        tests.burstEnds();
        tests.burstInLostBlocks();
        tests.cascadeShifts();
        tests.cascadeOfLostBlocks();
        tests.cascadeSends();
        tests.cascadeFails();
        tests.received();
        tests.sent();
        tests.check.finish();
    }

    // ---- Promise 11

    private void send() {
        promise(11, "`message`: as for symbolFor");
        for (int k = 1; k <= 3; k++) {
            int above = 1 << 4 * k;
            int dimension = k;
            Start start = () -> lost(doubled(12, dimension));
            for (int wrong : new int[] {-1, above, LEAST, GREATEST}) {
                refused(start, "send(" + wrong + ") for " + k, INVALID, x -> x.send(wrong));
            }
            NestedCodes x = start.make();
            due("send(0) for " + k, x.send(0), 0);
            x.send(above - 1);
            due("sent() of the greatest for " + k, x.sent(), above - 1);
        }
        refused("send(4096)", INVALID, x -> x.send(4096));
        promise(11, "Returns the number of ones in all words");
        due("send(15), all bits", bare(12, 1).send(15), 48);
        due("send(15) in three blocks", bare(3, 1).send(15), 12);
        promise(11, "no block is lost");
        NestedCodes y = lost(wide(12, 2));
        y.send(17);
        due("lost blocks", y.count(7), 0);
        due("received(0), the symbol 0", y.received(0), 0);
        due("received(11), the symbol 13", y.received(11), y.wordOf(13));
        promise(11, "the received words become those of its codeword");
        y.burst(0, 120);
        y.send(17);
        due("wrong bits", y.count(8), 0);
    }

    // ---- Promise 12

    private void flip() {
        promise(12, "`block`: number of a block");
        int[] lengths = {3, 8, 12};
        for (int n : lengths) {
            Start start = () -> doubled(n, 2);
            for (int wrong : new int[] {-1, n, LEAST, GREATEST}) {
                refused(start, "flip(" + wrong + ", 1) of " + n, INVALID, x -> x.flip(wrong, 1));
            }
            NestedCodes x = start.make();
            due("flip(0, 1) of " + n, x.flip(0, 1), 1);
            due("flip(last, 1) of " + n, x.flip(n - 1, 1), 1);
            due("received(last) of " + n, x.received(n - 1), 1);
            due("received(0) of " + n, x.received(0), 1);
        }
        refused("flip(8, 1)", INVALID, x -> x.flip(8, 1));
        promise(12, "`mask`: 1 to 2^b - 1: these bits are changed");
        masks(() -> bare(3, 1), 15);
        masks(NestedCodes::new, 127);
        masks(TestCase::used, 127);
        masks(() -> wide(12, 3), 1023);
        promise(12, "Returns the gap of the block then");
        NestedCodes y = new NestedCodes();
        due("no gap any more", y.flip(0, 1) * 10 + y.flip(0, 1), 10);
        due("the greatest gap of loose", loose(3, 1).flip(0, 1008), 6);
        due("the greatest gap of doubled", doubled(3, 1).flip(2, 85), 4);
        due("a gap that is no more than its half", doubled(3, 1).flip(2, 7), 1);
    }

    private void masks(Start start, int all) {
        for (int wrong : new int[] {0, all + 1, -1, LEAST, GREATEST}) {
            refused(start, "flip(0, " + wrong + ")", INVALID, x -> x.flip(0, wrong));
        }
        NestedCodes x = start.make();
        int before = x.received(0);
        x.flip(0, 1);
        due("flip(0, 1)", x.received(0), before ^ 1);
        x.flip(0, all);
        due("flip(0, " + all + ")", x.received(0), before ^ 1 ^ all);
        x.flip(0, (all + 1) / 2);
        due("the highest bit", x.received(0), before ^ 1 ^ all ^ (all + 1) / 2);
    }

    private void flipOfLostBlocks() {
        promise(12, "NOT_POSSIBLE if the block is lost");
        for (int block : new int[] {0, 5, 11}) {
            Start start = () -> lost(wide(12, 3));
            refused(start, "flip(" + block + ", 1)", IMPOSSIBLE, x -> x.flip(block, 1));
            refused(start, "flip(" + block + ", 1023)", IMPOSSIBLE, x -> x.flip(block, 1023));
        }
        refused(TestCase::used, "flip(2, 127)", IMPOSSIBLE, x -> x.flip(2, 127));
        NestedCodes y = used();
        y.lose(2, 0);
        due("the block is back", y.flip(2, 1), 1);
        section("Changes and errors", "INVALID_ARGUMENT is returned rather than NOT_POSSIBLE");
        refused(TestCase::used, "flip(2, 0)", INVALID, x -> x.flip(2, 0));
        refused(TestCase::used, "flip(2, 128)", INVALID, x -> x.flip(2, 128));
        refused(() -> lost(new NestedCodes()), "flip(8, 1)", INVALID, x -> x.flip(8, 1));
        refused(() -> lost(new NestedCodes()), "flip(-1, 1)", INVALID, x -> x.flip(-1, 1));
    }

    // ---- Promise 13

    private void lose() {
        promise(13, "`block`: number of a block");
        int[] lengths = {3, 8, 12};
        for (int n : lengths) {
            Start start = () -> doubled(n, 2);
            for (int wrong : new int[] {-1, n, LEAST, GREATEST}) {
                refused(start, "lose(" + wrong + ", 1) of " + n, INVALID, x -> x.lose(wrong, 1));
                refused(start, "lose(" + wrong + ", 0) of " + n, INVALID, x -> x.lose(wrong, 0));
            }
            NestedCodes x = start.make();
            due("lose(0, 1) of " + n, x.lose(0, 1), 0);
            due("lose(last, 1) of " + n, x.lose(n - 1, 1), 0);
            due("lost blocks of " + n, x.count(7), 2);
        }
        promise(13, "`lost`: 1 or 0");
        for (int wrong : new int[] {-1, 2, LEAST, GREATEST}) {
            refused("lose(0, " + wrong + ")", INVALID, x -> x.lose(0, wrong));
            refused("lose(2, " + wrong + ")", INVALID, x -> x.lose(2, wrong));
            refused("lose(8, " + wrong + ")", INVALID, x -> x.lose(8, wrong));
        }
        promise(13, "Returns the previous value");
        NestedCodes y = new NestedCodes();
        due("back when it is not lost", y.lose(7, 0), 0);
        due("lost", y.lose(7, 1), 0);
        due("lost once more", y.lose(7, 1), 1);
        due("back", y.lose(7, 0), 1);
        due("back once more", y.lose(7, 0), 0);
        due("lost blocks", y.count(7), 0);
    }

    private void loseKeeps() {
        section("Received", "Its received word is kept.");
        NestedCodes x = wide(12, 3);
        x.burst(0, 120);
        lost(x);
        for (int block = 0; block < 12; block++) {
            due("lost", x.received(block), NONE);
        }
        for (int block = 0; block < 12; block++) {
            x.lose(block, 0);
            due("back", x.received(block), 1023);
        }
        x.flip(11, 1);
        x.lose(11, 1);
        x.lose(11, 0);
        due("the gap is there again", x.block(11, 1), 1);
        due("the symbol is there again", x.block(11, 0), 1);
    }

    // ---- Promise 14

    private void burstPlaces() {
        promise(14, "`place`: the first place, 0 to b * n - 1");
        places(() -> bare(3, 1), 12);
        places(NestedCodes::new, 56);
        places(() -> wide(12, 3), 120);
        refused(TestCase::used, "burst(-1, 1)", INVALID, x -> x.burst(-1, 1));
        refused(TestCase::used, "burst(56, 1)", INVALID, x -> x.burst(56, 1));
        promise(14, "bit i of block j has the place b * j + i");
        NestedCodes y = new NestedCodes();
        due("the highest bit of block 0", y.burst(6, 1), 1);
        due("received(0)", y.received(0), 64);
        due("received(1)", y.received(1), 0);
        due("the lowest bit of block 1", y.burst(7, 1), 1);
        due("received(0)", y.received(0), 64);
        due("received(1)", y.received(1), 1);
    }

    private void places(Start start, int count) {
        for (int wrong : new int[] {-1, count, -count, LEAST, GREATEST}) {
            refused(start, "burst(" + wrong + ", 1) of " + count, INVALID, x -> x.burst(wrong, 1));
        }
        NestedCodes x = start.make();
        int last = x.count(0) - 1;
        due("burst(0, 1) of " + count, x.burst(0, 1), 1);
        due("received(0)", x.received(0), 1);
        due("burst(last, 1) of " + count, x.burst(count - 1, 1), 1);
        due("received(last)", x.received(last), 1 << x.count(3) - 1);
        due("wrong bits", x.count(8), 2);
    }

    private void burstLengths() {
        promise(14, "`length`: 1 to b * n - place");
        lengths(() -> bare(3, 1), 12);
        lengths(NestedCodes::new, 56);
        lengths(() -> wide(12, 3), 120);
        refused(TestCase::used, "burst(0, 57)", INVALID, x -> x.burst(0, 57));
        refused(TestCase::used, "burst(0, 0)", INVALID, x -> x.burst(0, 0));
        refused(TestCase::used, "burst(55, 2)", INVALID, x -> x.burst(55, 2));
    }

    private void lengths(Start start, int count) {
        for (int place : new int[] {0, 1, count / 2, count - 1}) {
            int most = count - place;
            for (int wrong : new int[] {0, -1, most + 1, count + 1, LEAST, GREATEST, GREATEST - place}) {
                refused(start, "burst(" + place + ", " + wrong + ") of " + count, INVALID,
                    x -> x.burst(place, wrong));
            }
            NestedCodes x = start.make();
            due("burst(" + place + ", 1) of " + count, x.burst(place, 1), 1);
            due("wrong bits", x.count(8), 1);
            NestedCodes y = start.make();
            int blocks = y.count(0) - place / y.count(3);
            due("burst(" + place + ", " + most + ") of " + count, y.burst(place, most), blocks);
            due("wrong bits", y.count(8), most);
        }
    }

    private void burstEnds() {
        promise(14, "Returns the number of blocks in which a bit was changed");
        NestedCodes x = new NestedCodes();
        due("a burst that is a block", x.burst(7, 7), 1);
        due("received(0)", x.received(0), 0);
        due("received(1)", x.received(1), 127);
        due("received(2)", x.received(2), 0);
        due("one that ends at a block's last bit", x.burst(19, 2), 1);
        due("received(2)", x.received(2), 96);
        due("one that ends a bit later", x.burst(19, 3), 2);
        due("received(2)", x.received(2), 0);
        due("received(3)", x.received(3), 1);
        due("one that begins at a block's last bit", x.burst(27, 9), 3);
        due("received(3)", x.received(3), 65);
        due("received(4)", x.received(4), 127);
        due("received(5)", x.received(5), 1);
        due("one that ends at the last bit of the last block", x.burst(50, 6), 1);
        due("received(7)", x.received(7), 126);
        due("one that begins a block before", x.burst(48, 8), 2);
        due("received(6)", x.received(6), 64);
        due("received(7)", x.received(7), 1);
        refused(() -> with(12, 1), "one that would go a bit beyond", INVALID, y -> y.burst(78, 7));
        NestedCodes z = with(12, 1);
        due("one that ends at the last bit of block 11", z.burst(78, 6), 1);
        due("received(11)", z.received(11), 126);
        due("the same again", z.burst(78, 6), 1);
        due("received(11)", z.received(11), 0);
    }

    private void burstInLostBlocks() {
        promise(14, "(Lost blocks are changed, too.)");
        NestedCodes x = lost(wide(12, 3));
        due("all blocks lost", x.burst(0, 120), 12);
        due("still lost", x.count(7), 12);
        due("none received", x.received(0), NONE);
        due("the last bit of the last block", x.burst(119, 1), 1);
        x.lose(0, 0);
        x.lose(11, 0);
        due("received(0)", x.received(0), 1023);
        due("received(11)", x.received(11), 511);
        NestedCodes y = lost(new NestedCodes());
        due("a refused burst", y.burst(0, 57), INVALID);
        y.lose(0, 0);
        due("received(0)", y.received(0), 0);
    }

    // ---- Promise 15

    private void cascadeShifts() {
        promise(15, "are shifted by one to the next higher bit (the highest bit to bit 0)");
        shifts(() -> bare(12, 1), 4);
        shifts(() -> with(12, 3), 7);
        shifts(() -> doubled(12, 2), 8);
        shifts(() -> wide(12, 3), 10);
        NestedCodes y = new NestedCodes();
        y.flip(0, 65);
        y.flip(7, 96);
        due("highest with lowest, the two highest", y.sendCascade(), 4);
        due("the highest and the lowest", y.received(0), 3);
        due("the two highest", y.received(7), 65);
        NestedCodes z = new NestedCodes();
        z.flip(7, 127);
        due("all bits of a block", z.sendCascade(), 7);
        due("received(7)", z.received(7), 127);
        due("no other block", z.count(8), 7);
        // The highest bit that tells a symbol becomes one that tells nothing, the highest of all
        // becomes one that tells a symbol.
        NestedCodes w = loose(12, 1);
        w.flip(0, 8);
        w.flip(11, 512);
        due("symbols before", w.block(0, 0) * 100 + w.block(11, 0), 800);
        due("the first of the order before", w.blockAt(0), 11);
        due("sendCascade()", w.sendCascade(), 2);
        due("symbols behind", w.block(0, 0) * 100 + w.block(11, 0), 1);
        due("gaps behind", w.block(0, 1) * 100 + w.block(11, 1), 100);
        due("the first of the order behind", w.blockAt(0), 0);
    }

    /** Each single bit of the first and the last block, until it is where it was. */
    private void shifts(Start start, int b) {
        NestedCodes x = start.make();
        int last = x.count(0) - 1;
        x.send(15);
        int first = x.received(0);
        int lowest = 1;
        int highest = 1 << b - 1;
        x.flip(0, lowest);
        x.flip(last, highest);
        for (int stage = 1; stage <= b; stage++) {
            lowest = lowest == 1 << b - 1 ? 1 : 2 * lowest;
            highest = highest == 1 << b - 1 ? 1 : 2 * highest;
            due("stage " + stage + " of " + b, x.sendCascade(), 2);
            due("stage " + stage + " of " + b + ", block 0", x.received(0), first ^ lowest);
            due("stage " + stage + " of " + b + ", the last", x.received(last), first ^ highest);
        }
        due("back at bit 0", x.received(0), first ^ 1);
        due("wrong bits", x.count(8), 2);
    }

    private void cascadeOfLostBlocks() {
        promise(15, "All this is done in lost blocks, too (by their received words), which stay lost.");
        NestedCodes x = new NestedCodes();
        x.send(291);
        x.flip(0, 64);
        x.burst(49, 7);
        x.lose(0, 1);
        x.lose(7, 1);
        due("one bit and seven, all in lost blocks", x.sendCascade(), 8);
        due("still lost", x.count(7), 2);
        due("wrong bits of the others", x.count(8), 0);
        x.lose(0, 0);
        x.lose(7, 0);
        due("from the highest bit to bit 0", x.received(0), 1);
        due("all bits", x.received(7), 127 ^ x.wordOf(12));
        due("wrong bits of all", x.count(8), 8);
        refused(() -> lost(new NestedCodes()), "all blocks lost", IMPOSSIBLE, y -> y.sendCascade());
        NestedCodes z = bare(12, 1);
        z.send(9);
        lost(z);
        z.lose(11, 0);
        due("all blocks lost but the last", z.sendCascade(), 0);
        due("still lost", z.count(7), 11);
        // The blocks that are lost are sent anew, too.
        NestedCodes w = doubled(3, 1);
        w.send(1);
        w.flip(0, 15);
        w.flip(1, 15);
        w.lose(2, 1);
        due("decode() of 2, 2, lost", w.decode(), 2);
        due("the lost block differs in four bits", w.sendCascade(), 4);
        w.lose(2, 0);
        due("its word", w.received(2), 12 ^ 30);
    }

    private void cascadeSends() {
        promise(15, "what was decoded becomes the sent message");
        NestedCodes x = new NestedCodes();
        x.burst(0, 56);
        due("sent() before", x.sent(), 0);
        due("sendCascade() without wrong bits", x.sendCascade(), 0);
        due("sent()", x.sent(), 15);
        due("a change, though nothing differs then", x.sendCascade() + x.count(6), 3);
        NestedCodes y = new NestedCodes();
        y.send(4095);
        due("the greatest message", y.sendCascade(), 0);
        due("sent()", y.sent(), 4095);
        promise(15, "Returns the number of bits that are changed again");
        due("of none", new NestedCodes().sendCascade(), 0);
        // Two wrong blocks of twelve, with all their bits wrong.
        NestedCodes z = wide(12, 1);
        z.burst(0, 20);
        due("of two blocks", z.sendCascade(), 20);
    }

    private void cascadeFails() {
        promise(15, "NOT_POSSIBLE if decoding fails");
        refused(TestCase::undecided, "of 4, 7, 5, lost", IMPOSSIBLE, x -> x.sendCascade());
        refused(() -> lost(wide(12, 1)), "of lost blocks only", IMPOSSIBLE, x -> x.sendCascade());
        refused(() -> {
            NestedCodes x = undecided();
            for (int i = 0; i < 6; i++) {
                x.burst(0, 1);
            }
            return x;
        }, "with a full history", IMPOSSIBLE, x -> x.sendCascade());
        NestedCodes y = undecided();
        y.sendCascade();
        due("what was sent stays", y.sent(), 5);
        y.lose(3, 0);
        due("decoding of 4, 7, 5, 5 fails, too", y.sendCascade(), IMPOSSIBLE);
        y.flip(1, 2);
        due("sendCascade() of 4, 5, 5, 5", y.sendCascade(), 1);
    }

    // ---- Promise 16

    private void received() {
        promise(16, "`block`: number of a block");
        int[] lengths = {3, 8, 12};
        for (int n : lengths) {
            Start start = () -> loose(n, 2);
            for (int wrong : new int[] {-1, n, LEAST, GREATEST}) {
                refused(start, "received(" + wrong + ") of " + n, INVALID, x -> x.received(wrong));
            }
            NestedCodes x = start.make();
            x.burst(0, 10 * n);
            due("received(0) of " + n, x.received(0), 1023);
            due("received(last) of " + n, x.received(n - 1), 1023);
        }
        promise(16, "NOT_FOUND if the block is lost");
        refused(() -> lost(bare(3, 1)), "received(0)", NONE, x -> x.received(0));
        refused(() -> lost(wide(12, 3)), "received(11)", NONE, x -> x.received(11));
        NestedCodes y = lost(wide(12, 3));
        y.lose(4, 0);
        due("the only one that is not lost", y.received(4), 0);
        due("the one before", y.received(3), NONE);
        due("the one behind", y.received(5), NONE);
        section("Changes and errors", "LIMIT_REACHED rather than NOT_FOUND");
        refused(() -> lost(bare(3, 1)), "received(3), no block", INVALID, x -> x.received(3));
        refused(() -> lost(wide(12, 3)), "received(-1), no block", INVALID, x -> x.received(-1));
    }

    // ---- Promise 17

    private void sent() {
        promise(17, "Returns the message that was sent, as for symbolFor.");
        due("initially", new NestedCodes().sent(), 0);
        int[] greatest = {15, 255, 4095};
        for (int k = 1; k <= 3; k++) {
            NestedCodes x = with(12, k);
            x.send(greatest[k - 1]);
            due("the greatest of " + k, x.sent(), greatest[k - 1]);
            x.send(greatest[k - 1] + 1);
            due("after a refused one", x.sent(), greatest[k - 1]);
            lost(x);
            due("all blocks lost", x.sent(), greatest[k - 1]);
            x.send(0);
            due("the least of " + k, x.sent(), 0);
        }
    }
}
