/** One method for each promise of the document; the answers are worked out by hand. */
public final class PromiseTests extends TestCase {
    public static void main(String[] args) {
        PromiseTests tests = new PromiseTests();
        tests.all();
        tests.check.finish();
    }

    private void all() {
        p1NewObject();
        p2SetOuter();
        p3Generator();
        p4ClearGenerators();
        p5SetInner();
        p6Undo();
        p7Count();
        p8WordOf();
        p9Product();
        p10SymbolFor();
        p11Send();
        p12Flip();
        p13Lose();
        p14Burst();
        p15SendCascade();
        p16Received();
        p17Sent();
        p18Block();
        p19BlockAt();
        p20Strength();
        p21Trial();
        p22Score();
        p23Lawful();
        p24Decode();
        p25DecidingTrial();
        p26Margin();
        p27WastedTrials();
        p28IsGuaranteed();
        p29FragileBits();
        p30FragileBlocks();
        p31Nearest();
    }

    private void p1NewObject() {
        promise(1);
        NestedCodes x = new NestedCodes();
        int[] counts = {8, 3, 6, 7, 3, 0, 0, 0, 0};
        for (int what = 0; what < counts.length; what++) {
            due("count(" + what + ")", x.count(what), counts[what]);
        }
        int[] generators = {49, 82, 100, 120};
        for (int i = 0; i < 4; i++) {
            due("wordOf", x.wordOf(1 << i), generators[i]);
        }
        for (int block = 0; block < 8; block++) {
            due("received", x.received(block), 0);
            due("block's symbol", x.block(block, 0), 0);
            due("block's gap", x.block(block, 1), 0);
            due("block's reliability", x.block(block, 2), 3);
            due("block's place", x.block(block, 3), block);
            due("block is right", x.block(block, 4), 1);
        }
        due("sent()", x.sent(), 0);
        due("decode()", x.decode(), 0);
        due("undo()", x.undo(), IMPOSSIBLE);
        NestedCodes other = new NestedCodes();
        other.setOuter(5, 1);
        other.generator(7);
        other.send(3);
        due("n beside another object", x.count(0), 8);
        due("waiting beside another object", x.count(5), 0);
        due("history beside another object", x.count(6), 0);
        due("constant", NestedCodes.INVALID_ARGUMENT, -1001);
        due("constant", NestedCodes.NOT_POSSIBLE, -1002);
        due("constant", NestedCodes.LIMIT_REACHED, -1003);
        due("constant", NestedCodes.NOT_FOUND, -1004);
    }

    private void p2SetOuter() {
        promise(2);
        NestedCodes x = new NestedCodes();
        due("setOuter(12, 1)", x.setOuter(12, 1), 83);
        due("setOuter(3, 2)", x.setOuter(3, 2), 121);
        due("setOuter(3, 1)", x.setOuter(3, 1), 32);
        due("setOuter(4, 3)", x.setOuter(4, 3), 31);
        due("D", x.count(2), 2);
        due("setOuter(12, 3)", x.setOuter(12, 3), 43);
        due("n", x.count(0), 12);
        due("k", x.count(1), 3);
        due("D", x.count(2), 10);
        due("history", x.count(6), 5);
        x.send(77);
        x.lose(11, 1);
        refused(x, "setOuter(2, 1)", INVALID, () -> x.setOuter(2, 1));
        refused(x, "setOuter(13, 1)", INVALID, () -> x.setOuter(13, 1));
        refused(x, "setOuter(5, 0)", INVALID, () -> x.setOuter(5, 0));
        refused(x, "setOuter(5, 4)", INVALID, () -> x.setOuter(5, 4));
        refused(x, "setOuter(3, 3)", INVALID, () -> x.setOuter(3, 3));
        refused(x, "setOuter(-1, -2)", INVALID, () -> x.setOuter(-1, -2));
        refused(x, "setOuter(least, least)", INVALID, () -> x.setOuter(LEAST, LEAST));
        refused(x, "setOuter(greatest, greatest)", INVALID, () -> x.setOuter(GREATEST, GREATEST));
        due("the same code", x.setOuter(12, 3), 123);
        due("sent()", x.sent(), 0);
        for (int block = 0; block < 12; block++) {
            due("received", x.received(block), 0);
        }
        due("lost", x.count(7), 0);
        x.burst(0, 84);
        x.setOuter(4, 1);
        x.setOuter(12, 1);
        due("received(11) after a shorter code", x.received(11), 0);
        x.generator(5);
        x.setOuter(6, 2);
        due("waiting", x.count(5), 1);
        due("inner code stays", x.wordOf(8), 120);
    }

    private void p3Generator() {
        promise(3);
        NestedCodes x = new NestedCodes();
        refused(x, "generator(0)", INVALID, () -> x.generator(0));
        refused(x, "generator(1024)", INVALID, () -> x.generator(1024));
        refused(x, "generator(-1)", INVALID, () -> x.generator(-1));
        refused(x, "generator(least)", INVALID, () -> x.generator(LEAST));
        due("generator(1)", x.generator(1), 1);
        due("generator(1023)", x.generator(1023), 2);
        due("generator(1)", x.generator(1), 3);
        due("generator(512)", x.generator(512), 4);
        refused(x, "generator(8) of four", LIMIT, () -> x.generator(8));
        refused(x, "generator(0) of four", INVALID, () -> x.generator(0));
        refused(x, "generator(greatest) of four", INVALID, () -> x.generator(GREATEST));
        due("waiting", x.count(5), 4);
        due("history", x.count(6), 0);
    }

    private void p4ClearGenerators() {
        promise(4);
        NestedCodes x = new NestedCodes();
        due("clearGenerators() of none", x.clearGenerators(), 0);
        x.generator(9);
        due("clearGenerators() of one", x.clearGenerators(), 1);
        due("waiting", x.count(5), 0);
        for (int i = 0; i < 4; i++) {
            x.generator(1 << i);
        }
        due("clearGenerators() of four", x.clearGenerators(), 4);
        due("clearGenerators() again", x.clearGenerators(), 0);
        due("history", x.count(6), 0);
        due("generator(8)", x.generator(8), 1);
    }

    private void p5SetInner() {
        promise(5);
        NestedCodes x = new NestedCodes();
        x.send(291);
        x.lose(1, 1);
        refused(x, "setInner(4) without generators", IMPOSSIBLE, () -> x.setInner(4));
        refused(x, "setInner(3) without generators", INVALID, () -> x.setInner(3));
        x.generator(8);
        x.generator(4);
        x.generator(2);
        refused(x, "setInner(4) with three", IMPOSSIBLE, () -> x.setInner(4));
        x.generator(1);
        refused(x, "setInner(3)", INVALID, () -> x.setInner(3));
        refused(x, "setInner(11)", INVALID, () -> x.setInner(11));
        refused(x, "setInner(least)", INVALID, () -> x.setInner(LEAST));
        refused(x, "setInner(greatest)", INVALID, () -> x.setInner(GREATEST));
        due("setInner(4)", x.setInner(4), 1);
        due("wordOf(1)", x.wordOf(1), 8);
        due("wordOf(8)", x.wordOf(8), 1);
        due("waiting", x.count(5), 0);
        due("b", x.count(3), 4);
        due("d", x.count(4), 1);
        due("history", x.count(6), 3);
        due("sent()", x.sent(), 0);
        due("lost", x.count(7), 0);
        due("received(3)", x.received(3), 0);
        due("n stays", x.count(0), 8);
        innerCodesRefused();
        NestedCodes y = new NestedCodes();
        y.generator(1023);
        y.generator(31);
        y.generator(341);
        y.generator(819);
        refused(y, "setInner(9) with 10 bits", IMPOSSIBLE, () -> y.setInner(9));
        due("setInner(10)", y.setInner(10), 4);
        due("d", y.count(4), 4);
        due("b", y.count(3), 10);
        NestedCodes z = with(8, 3, 10, 1, 2, 4, 8);
        due("more bits than needed", z.count(3), 10);
    }

    private void innerCodesRefused() {
        int[][] rows = {{1, 2, 4, 7}, {5, 5, 2, 8}, {3, 5, 6, 8}, {1, 2, 4, 16}, {16, 1, 2, 4}};
        for (int[] row : rows) {
            NestedCodes x = new NestedCodes();
            for (int generator : row) {
                x.generator(generator);
            }
            refused(x, "setInner(4) with " + row[0] + ", ..", IMPOSSIBLE, () -> x.setInner(4));
            due("waiting", x.count(5), 4);
        }
        NestedCodes x = with(8, 3, 5, 1, 2, 4, 16);
        due("16 has 5 bits", x.count(3), 5);
    }

    private void p6Undo() {
        promise(6);
        NestedCodes x = new NestedCodes();
        due("undo() of nothing", x.undo(), IMPOSSIBLE);
        x.send(291);
        x.flip(1, 3);
        x.lose(2, 1);
        x.generator(1);
        x.generator(2);
        x.generator(4);
        x.generator(8);
        x.setInner(4);
        x.setOuter(5, 1);
        due("history", x.count(6), 5);
        due("undo()", x.undo(), 4);
        due("n", x.count(0), 8);
        due("k", x.count(1), 3);
        due("b", x.count(3), 4);
        x.generator(77);
        due("undo() of the inner code", x.undo(), 3);
        due("b", x.count(3), 7);
        due("d", x.count(4), 3);
        due("wordOf(1)", x.wordOf(1), 49);
        due("waiting ones stay", x.count(5), 1);
        due("sent()", x.sent(), 291);
        due("received(2)", x.received(2), NONE);
        due("received(1)", x.received(1), 96);
        due("undo() of lose", x.undo(), 2);
        due("received(2)", x.received(2), 0);
        due("undo() of flip", x.undo(), 1);
        due("received(1)", x.received(1), 99);
        due("undo() of send", x.undo(), 0);
        due("sent()", x.sent(), 0);
        due("received(1)", x.received(1), 0);
        refused(x, "undo() of nothing more", IMPOSSIBLE, () -> x.undo());
        fullHistory();
    }

    private void fullHistory() {
        NestedCodes x = new NestedCodes();
        for (int message = 1; message <= 9; message++) {
            x.send(message);
            due("history", x.count(6), Math.min(message, 6));
        }
        for (int message = 8; message >= 3; message--) {
            due("undo()", x.undo(), message - 3);
            due("sent()", x.sent(), message);
        }
        due("undo()", x.undo(), IMPOSSIBLE);
        due("sent() of the oldest kept", x.sent(), 3);
        x.send(10);
        due("undo() after all that", x.undo(), 0);
        due("sent()", x.sent(), 3);
        x.lose(0, 0);
        x.burst(0, 1);
        x.sendCascade();
        due("changes of every kind", x.count(6), 3);
        x.setOuter(12, 1);
        x.flip(0, 1);
        x.lose(0, 1);
        x.flip(11, 64);
        x.lose(11, 1);
        x.undo();
        due("the last block", x.received(11), 64);
        x.undo();
        due("the last block", x.received(11), 0);
        due("the first block", x.received(0), NONE);
        x.undo();
        due("the first block", x.received(0), 1);
        due("its gap", x.block(0, 1), 1);
        x.undo();
        due("the first block", x.received(0), 0);
        due("its gap", x.block(0, 1), 0);
    }

    private void p7Count() {
        promise(7);
        NestedCodes x = doubled(5, 2);
        int[] counts = {5, 2, 4, 8, 2, 0, 2, 0, 0};
        for (int what = 0; what < counts.length; what++) {
            due("count(" + what + ")", x.count(what), counts[what]);
        }
        x.generator(6);
        due("count(5)", x.count(5), 1);
        x.send(33);
        x.flip(0, 255);
        x.flip(4, 7);
        due("count(8)", x.count(8), 11);
        x.lose(0, 1);
        due("count(7)", x.count(7), 1);
        due("count(8) without the lost block", x.count(8), 3);
        x.lose(0, 1);
        due("count(7)", x.count(7), 1);
        due("count(6)", x.count(6), 6);
        x.lose(0, 0);
        due("count(7)", x.count(7), 0);
        due("count(8)", x.count(8), 11);
        due("count(-1)", x.count(-1), INVALID);
        due("count(9)", x.count(9), INVALID);
        due("count(least)", x.count(LEAST), INVALID);
        due("count(greatest)", x.count(GREATEST), INVALID);
    }

    private void p8WordOf() {
        promise(8);
        NestedCodes x = new NestedCodes();
        int[] words = {0, 49, 82, 99, 100, 85, 54, 7, 120, 73, 42, 27, 28, 45, 78, 127};
        for (int symbol = 0; symbol < 16; symbol++) {
            due("wordOf(" + symbol + ")", x.wordOf(symbol), words[symbol]);
        }
        due("wordOf(-1)", x.wordOf(-1), INVALID);
        due("wordOf(16)", x.wordOf(16), INVALID);
        due("wordOf(least)", x.wordOf(LEAST), INVALID);
        due("wordOf(greatest)", x.wordOf(GREATEST), INVALID);
        NestedCodes y = bare(3, 1);
        for (int symbol = 0; symbol < 16; symbol++) {
            due("wordOf(" + symbol + ")", y.wordOf(symbol), symbol);
        }
    }

    private void p9Product() {
        promise(9);
        NestedCodes x = new NestedCodes();
        // The powers of 2 run through all numbers but 0.
        int[] powers = {1, 2, 4, 8, 3, 6, 12, 11, 5, 10, 7, 14, 15, 13, 9};
        for (int i = 0; i < 15; i++) {
            due("product with 0", x.product(powers[i], 0), 0);
            due("product with 0", x.product(0, powers[i]), 0);
            for (int j = 0; j < 15; j++) {
                due("product(" + powers[i] + ", " + powers[j] + ")",
                    x.product(powers[i], powers[j]), powers[(i + j) % 15]);
            }
        }
        due("product(0, 0)", x.product(0, 0), 0);
        due("product(-1, 0)", x.product(-1, 0), INVALID);
        due("product(0, -1)", x.product(0, -1), INVALID);
        due("product(16, 0)", x.product(16, 0), INVALID);
        due("product(0, 16)", x.product(0, 16), INVALID);
        due("product(least, greatest)", x.product(LEAST, GREATEST), INVALID);
    }

    private void p10SymbolFor() {
        promise(10);
        NestedCodes x = new NestedCodes();
        int[] squares = {1, 4, 5, 3, 2, 7, 6, 12};
        for (int block = 0; block < 8; block++) {
            due("symbolFor(0, ..)", x.symbolFor(0, block), 0);
            due("symbolFor(11, ..)", x.symbolFor(11, block), 11);
            due("symbolFor(16, ..)", x.symbolFor(16, block), block + 1);
            due("symbolFor(256, ..)", x.symbolFor(256, block), squares[block]);
            due("symbolFor(283, ..)", x.symbolFor(283, block), squares[block] ^ block + 1 ^ 11);
        }
        due("symbolFor(4095, 0)", x.symbolFor(4095, 0), 15);
        due("symbolFor(4096, 0)", x.symbolFor(4096, 0), INVALID);
        due("symbolFor(-1, 0)", x.symbolFor(-1, 0), INVALID);
        due("symbolFor(0, 8)", x.symbolFor(0, 8), INVALID);
        due("symbolFor(0, -1)", x.symbolFor(0, -1), INVALID);
        due("symbolFor(least, least)", x.symbolFor(LEAST, LEAST), INVALID);
        due("symbolFor(0, greatest)", x.symbolFor(0, GREATEST), INVALID);
        x.setOuter(12, 2);
        due("symbolFor(16, 11)", x.symbolFor(16, 11), 12);
        due("symbolFor(255, 0)", x.symbolFor(255, 0), 0);
        due("symbolFor(256, 0)", x.symbolFor(256, 0), INVALID);
        due("symbolFor(16, 12)", x.symbolFor(16, 12), INVALID);
        x.setOuter(3, 1);
        due("symbolFor(15, 2)", x.symbolFor(15, 2), 15);
        due("symbolFor(16, 0)", x.symbolFor(16, 0), INVALID);
        due("symbolFor(0, 3)", x.symbolFor(0, 3), INVALID);
    }

    private void p11Send() {
        promise(11);
        NestedCodes x = new NestedCodes();
        due("send(1)", x.send(1), 24);
        due("received(7)", x.received(7), 49);
        x.lose(3, 1);
        x.flip(0, 5);
        due("send(16)", x.send(16), 28);
        due("lost", x.count(7), 0);
        int[] words = {49, 82, 99, 100, 85, 54, 7, 120};
        for (int block = 0; block < 8; block++) {
            due("received(" + block + ")", x.received(block), words[block]);
        }
        due("send(0)", x.send(0), 0);
        due("send(0) is a change", x.count(6), 5);
        refused(x, "send(-1)", INVALID, () -> x.send(-1));
        refused(x, "send(4096)", INVALID, () -> x.send(4096));
        refused(x, "send(least)", INVALID, () -> x.send(LEAST));
        due("send(4095)", x.send(4095) > 0 ? 1 : 0, 1);
        NestedCodes y = bare(3, 1);
        due("send(15)", y.send(15), 12);
        refused(y, "send(16)", INVALID, () -> y.send(16));
        NestedCodes z = bare(12, 2);
        due("send(16)", z.send(16), 22);
        due("received(11)", z.received(11), 12);
        refused(z, "send(256)", INVALID, () -> z.send(256));
    }

    private void p12Flip() {
        promise(12);
        NestedCodes x = new NestedCodes();
        due("flip(0, 1)", x.flip(0, 1), 1);
        due("flip(0, 48)", x.flip(0, 48), 0);
        due("received(0)", x.received(0), 49);
        due("flip(7, 127)", x.flip(7, 127), 0);
        due("received(7)", x.received(7), 127);
        due("history", x.count(6), 3);
        refused(x, "flip(0, 0)", INVALID, () -> x.flip(0, 0));
        refused(x, "flip(0, 128)", INVALID, () -> x.flip(0, 128));
        refused(x, "flip(0, -1)", INVALID, () -> x.flip(0, -1));
        refused(x, "flip(8, 1)", INVALID, () -> x.flip(8, 1));
        refused(x, "flip(-1, 1)", INVALID, () -> x.flip(-1, 1));
        refused(x, "flip(greatest, least)", INVALID, () -> x.flip(GREATEST, LEAST));
        x.lose(2, 1);
        refused(x, "flip of a lost block", IMPOSSIBLE, () -> x.flip(2, 1));
        refused(x, "flip(2, 0) of a lost block", INVALID, () -> x.flip(2, 0));
        refused(x, "flip(2, 128) of a lost block", INVALID, () -> x.flip(2, 128));
        NestedCodes y = doubled(3, 1);
        due("gap 4", y.flip(0, 85), 4);
        due("flip(2, 255)", y.flip(2, 255), 0);
        refused(y, "flip(2, 256)", INVALID, () -> y.flip(2, 256));
        NestedCodes z = with(8, 3, 10, 1, 2, 4, 8);
        due("flip(0, 1023)", z.flip(0, 1023), 6);
        refused(z, "flip(0, 1024)", INVALID, () -> z.flip(0, 1024));
    }

    private void p13Lose() {
        promise(13);
        NestedCodes x = new NestedCodes();
        x.send(291);
        due("lose(1, 1)", x.lose(1, 1), 0);
        due("received(1)", x.received(1), NONE);
        due("symbol", x.block(1, 0), 0);
        due("gap", x.block(1, 1), 0);
        due("reliability", x.block(1, 2), 0);
        due("lose(1, 1) again", x.lose(1, 1), 1);
        due("lose(1, 0)", x.lose(1, 0), 1);
        due("received(1) is kept", x.received(1), 99);
        due("lose(1, 0) again", x.lose(1, 0), 0);
        due("history", x.count(6), 5);
        due("lose(7, 1)", x.lose(7, 1), 0);
        refused(x, "lose(8, 1)", INVALID, () -> x.lose(8, 1));
        refused(x, "lose(-1, 0)", INVALID, () -> x.lose(-1, 0));
        refused(x, "lose(0, 2)", INVALID, () -> x.lose(0, 2));
        refused(x, "lose(0, -1)", INVALID, () -> x.lose(0, -1));
        refused(x, "lose(least, greatest)", INVALID, () -> x.lose(LEAST, GREATEST));
        for (int block = 0; block < 8; block++) {
            x.lose(block, 1);
        }
        due("all lost", x.count(7), 8);
        due("decode()", x.decode(), NONE);
    }

    private void p14Burst() {
        promise(14);
        NestedCodes x = new NestedCodes();
        due("burst(6, 1)", x.burst(6, 1), 1);
        due("received(0)", x.received(0), 64);
        due("burst(6, 2)", x.burst(6, 2), 2);
        due("received(0)", x.received(0), 0);
        due("received(1)", x.received(1), 1);
        due("burst(12, 10)", x.burst(12, 10), 3);
        due("received(1)", x.received(1), 97);
        due("received(2)", x.received(2), 127);
        due("received(3)", x.received(3), 1);
        due("history", x.count(6), 3);
        NestedCodes y = new NestedCodes();
        due("burst(0, 56)", y.burst(0, 56), 8);
        for (int block = 0; block < 8; block++) {
            due("received", y.received(block), 127);
        }
        due("burst(55, 1)", y.burst(55, 1), 1);
        due("received(7)", y.received(7), 63);
        refused(y, "burst(-1, 1)", INVALID, () -> y.burst(-1, 1));
        refused(y, "burst(56, 1)", INVALID, () -> y.burst(56, 1));
        refused(y, "burst(0, 0)", INVALID, () -> y.burst(0, 0));
        refused(y, "burst(0, 57)", INVALID, () -> y.burst(0, 57));
        refused(y, "burst(55, 2)", INVALID, () -> y.burst(55, 2));
        refused(y, "burst(1, greatest)", INVALID, () -> y.burst(1, GREATEST));
        refused(y, "burst(greatest, 1)", INVALID, () -> y.burst(GREATEST, 1));
        refused(y, "burst(least, least)", INVALID, () -> y.burst(LEAST, LEAST));
        y.lose(3, 1);
        due("burst in a lost block", y.burst(21, 7), 1);
        due("still lost", y.received(3), NONE);
        y.lose(3, 0);
        due("received(3)", y.received(3), 0);
        due("symbols after a burst", y.block(0, 0), 15);
        due("decode() after a burst", y.decode(), 15);
        NestedCodes z = with(12, 3, 10, 1023, 31, 341, 819);
        due("burst(0, 120)", z.burst(0, 120), 12);
        due("received(11)", z.received(11), 1023);
        refused(z, "burst(120, 1)", INVALID, () -> z.burst(120, 1));
    }

    private void p15SendCascade() {
        promise(15);
        NestedCodes x = new NestedCodes();
        due("sendCascade() of no errors", x.sendCascade(), 0);
        due("is a change", x.count(6), 1);
        x.flip(0, 64);
        x.flip(1, 3);
        x.burst(14, 1);
        x.lose(2, 1);
        due("sendCascade()", x.sendCascade(), 4);
        due("received(0)", x.received(0), 1);
        due("received(1)", x.received(1), 6);
        due("received(2) stays lost", x.received(2), NONE);
        due("sendCascade()", x.sendCascade(), 4);
        due("received(0)", x.received(0), 2);
        due("received(1)", x.received(1), 12);
        x.lose(2, 0);
        due("received(2) was shifted twice", x.received(2), 4);
        NestedCodes y = new NestedCodes();
        y.send(1);
        for (int block = 0; block < 8; block++) {
            y.flip(block, 99);
        }
        due("decode()", y.decode(), 2);
        due("sent()", y.sent(), 1);
        due("sendCascade()", y.sendCascade(), 0);
        due("sent()", y.sent(), 2);
        due("received(5)", y.received(5), 82);
        due("count(8)", y.count(8), 0);
        y.undo();
        due("sent() after undo", y.sent(), 1);
        NestedCodes w = doubled(5, 1);
        w.send(1);
        w.flip(1, 128);
        w.flip(2, 12);
        due("sendCascade() onto ones of the words", w.sendCascade(), 3);
        due("received(0)", w.received(0), 3);
        due("received(1)", w.received(1), 2);
        due("received(2)", w.received(2), 27);
        due("gap of block 1", w.block(1, 1), 1);
        due("gap of block 2", w.block(2, 1), 2);
        NestedCodes z = bare(4, 1);
        z.send(9);
        z.flip(0, 1);
        z.flip(1, 2);
        refused(z, "sendCascade() without a decoded message", IMPOSSIBLE, () -> z.sendCascade());
    }

    private void p16Received() {
        promise(16);
        NestedCodes x = new NestedCodes();
        x.send(16);
        x.flip(2, 4);
        due("received(0)", x.received(0), 49);
        due("received(2)", x.received(2), 103);
        due("received(7)", x.received(7), 120);
        x.lose(7, 1);
        due("received(7) lost", x.received(7), NONE);
        due("received(8)", x.received(8), INVALID);
        due("received(-1)", x.received(-1), INVALID);
        due("received(least)", x.received(LEAST), INVALID);
        due("received(greatest)", x.received(GREATEST), INVALID);
    }

    private void p17Sent() {
        promise(17);
        NestedCodes x = new NestedCodes();
        due("sent()", x.sent(), 0);
        x.send(4095);
        due("sent()", x.sent(), 4095);
        x.flip(0, 1);
        x.lose(1, 1);
        x.burst(20, 3);
        due("sent()", x.sent(), 4095);
        x.send(4096);
        due("sent() after an error", x.sent(), 4095);
        x.undo();
        due("sent()", x.sent(), 4095);
        x.setOuter(8, 3);
        due("sent() after setOuter", x.sent(), 0);
    }

    private void p18Block() {
        promise(18);
        NestedCodes x = doubled(4, 1);
        x.send(1);
        x.flip(0, 1);
        // 2 is as near to the word 0 of symbol 0 as to the word 3 of symbol 1.
        int[] tie = {0, 1, 0, 0, 0};
        for (int what = 0; what < 5; what++) {
            due("block(0, " + what + ")", x.block(0, what), tie[what]);
        }
        x.flip(1, 12);
        int[] wrong = {3, 0, 2, 1, 0};
        for (int what = 0; what < 5; what++) {
            due("block(1, " + what + ")", x.block(1, what), wrong[what]);
        }
        x.flip(3, 84);
        due("gap of 87", x.block(3, 1), 3);
        due("reliability is at least 0", x.block(3, 2), 0);
        due("place", x.block(3, 3), 1);
        due("place", x.block(1, 3), 2);
        due("place", x.block(2, 3), 3);
        x.lose(2, 1);
        int[] lost = {0, 0, 0, 1, 0};
        for (int what = 0; what < 5; what++) {
            due("block(2, " + what + ")", x.block(2, what), lost[what]);
        }
        x.send(0);
        x.lose(2, 1);
        due("a lost block where 0 was sent", x.block(2, 4), 1);
        due("block(4, 0)", x.block(4, 0), INVALID);
        due("block(-1, 0)", x.block(-1, 0), INVALID);
        due("block(0, 5)", x.block(0, 5), INVALID);
        due("block(0, -1)", x.block(0, -1), INVALID);
        due("block(greatest, least)", x.block(GREATEST, LEAST), INVALID);
    }

    private void p19BlockAt() {
        promise(19);
        NestedCodes x = new NestedCodes();
        for (int place = 0; place < 8; place++) {
            due("blockAt(" + place + ")", x.blockAt(place), place);
        }
        x.flip(6, 1);
        x.flip(2, 4);
        x.lose(5, 1);
        int[] order = {5, 2, 6, 0, 1, 3, 4, 7};
        for (int place = 0; place < 8; place++) {
            due("blockAt(" + place + ")", x.blockAt(place), order[place]);
            due("block's place", x.block(order[place], 3), place);
        }
        due("blockAt(8)", x.blockAt(8), INVALID);
        due("blockAt(-1)", x.blockAt(-1), INVALID);
        due("blockAt(least)", x.blockAt(LEAST), INVALID);
        due("blockAt(greatest)", x.blockAt(GREATEST), INVALID);
        x.setOuter(12, 3);
        due("blockAt(11)", x.blockAt(11), 11);
    }

    private void p20Strength() {
        promise(20);
        NestedCodes x = new NestedCodes();
        due("strength(0)", x.strength(0), 2);
        x.flip(0, 1);
        due("strength(0) with an error", x.strength(0), 1);
        x.lose(1, 1);
        due("strength of a lost block", x.strength(1), IMPOSSIBLE);
        due("strength(8)", x.strength(8), INVALID);
        due("strength(-1)", x.strength(-1), INVALID);
        due("strength(least)", x.strength(LEAST), INVALID);
        due("strength(greatest)", x.strength(GREATEST), INVALID);
        NestedCodes y = doubled(4, 1);
        due("a higher symbol must be nearer", y.strength(0), 2);
        y.flip(0, 255);
        due("a lower symbol need not", y.strength(0), 1);
        y.flip(1, 1);
        due("word 1", y.strength(1), 1);
        y.flip(2, 3);
        due("symbol 0 is lower than all", y.strength(2), 1);
        // The nearest words have four ones, and their symbols are higher than 0.
        NestedCodes z = with(4, 1, 10, 1023, 31, 341, 819);
        due("four apart", z.strength(0), 3);
        NestedCodes w = with(4, 1, 10, 1, 2, 4, 1016);
        due("bits that tell nothing", w.strength(0), 1);
        w.flip(0, 7);
        due("symbol 7", w.block(0, 0), 7);
        due("strength", w.strength(0), 1);
    }

    private void p21Trial() {
        promise(21);
        NestedCodes x = bare(4, 1);
        x.send(9);
        x.flip(0, 1);
        x.flip(1, 2);
        due("trial(0)", x.trial(0), NONE);
        due("trial(1)", x.trial(1), 9);
        due("trial(3)", x.trial(3), 9);
        due("trial(4)", x.trial(4), INVALID);
        due("trial(-1)", x.trial(-1), INVALID);
        due("trial(least)", x.trial(LEAST), INVALID);
        due("trial(greatest)", x.trial(GREATEST), INVALID);
        // With 8, 8, 9, 9 no symbol but one of the last two matters, then only the last.
        x.flip(1, 3);
        due("trial(0) of 8, 8, 9, 9", x.trial(0), NONE);
        due("trial(1) of 8, 8, 9, 9", x.trial(1), 9);
        x.flip(3, 1);
        due("trial(2) of 8, 8, 9, 8", x.trial(2), NONE);
        due("trial(3) of 8, 8, 9, 8", x.trial(3), 8);
        due("trial(0) of a codeword of k = 2", climbing().trial(0), NONE);
        // A lost block has the symbol 0 unless it is erased, and is erased first.
        NestedCodes y = bare(3, 1);
        y.send(5);
        y.lose(2, 1);
        due("trial(0) of 5, 5, lost", y.trial(0), 5);
        y.flip(0, 5);
        due("trial(0) of 0, 5, lost", y.trial(0), 0);
        due("trial(1) of 0, 5, lost", y.trial(1), NONE);
        due("trial(2) of 0, 5, lost", y.trial(2), 5);
        due("results need not be lawful", y.decode(), NONE);
        NestedCodes z = new NestedCodes();
        z.send(4095);
        for (int s = 0; s < 6; s++) {
            due("trial(" + s + ")", z.trial(s), 4095);
        }
        due("trial(6)", z.trial(6), INVALID);
        due("a question is no change", z.count(6), 1);
    }

    private void p22Score() {
        promise(22);
        NestedCodes x = new NestedCodes();
        due("score(0)", x.score(0), 24);
        due("score(1)", x.score(1), -24);
        due("score(17)", x.score(17), -18);
        due("score(273)", x.score(273), -12);
        x.flip(0, 1);
        x.flip(1, 49);
        x.lose(2, 1);
        due("score(0)", x.score(0), 13);
        due("score(1)", x.score(1), -13);
        due("score(4096)", x.score(4096), INVALID);
        due("score(-1)", x.score(-1), INVALID);
        due("score(least)", x.score(LEAST), INVALID);
        due("score(greatest)", x.score(GREATEST), INVALID);
        NestedCodes y = with(12, 1, 10, 1023, 31, 341, 819);
        due("score(0)", y.score(0), 48);
        due("score(15)", y.score(15), -48);
        due("score(16)", y.score(16), INVALID);
    }

    private void p23Lawful() {
        promise(23);
        NestedCodes x = new NestedCodes();
        due("lawful()", x.lawful(), 1);
        NestedCodes y = bare(4, 1);
        due("lawful()", y.lawful(), 1);
        y.flip(0, 1);
        due("lawful() with score 2", y.lawful(), 1);
        y.flip(1, 2);
        due("lawful() with score 0", y.lawful(), 0);
        y.lose(0, 1);
        due("lawful() with score 1", y.lawful(), 1);
        NestedCodes z = bare(4, 3);
        due("score 4 of more than 2", z.lawful(), 1);
        z.lose(3, 1);
        due("score 3 of more than 2", z.lawful(), 1);
        z.lose(2, 1);
        due("score 2 of more than 2", z.lawful(), 0);
    }

    /** A codeword of k = 2, with the symbols 1 to 5, where k is 1. */
    private static NestedCodes climbing() {
        NestedCodes x = bare(5, 1);
        for (int block = 0; block < 5; block++) {
            x.flip(block, block + 1);
        }
        return x;
    }

    /** Block 0 has the symbol 1 with reliability 3, the others 0 with reliability 1 each. */
    private static NestedCodes outvoted() {
        NestedCodes x = with(4, 1);
        x.flip(0, 49);
        for (int block = 1; block < 4; block++) {
            x.flip(block, 1);
        }
        return x;
    }

    private void p24Decode() {
        promise(24);
        NestedCodes x = new NestedCodes();
        due("decode()", x.decode(), 0);
        x.send(4095);
        due("decode()", x.decode(), 4095);
        x.flip(3, 127);
        due("decode()", x.decode(), 4095);
        due("decode() without a lawful codeword", undecided().decode(), NONE);
        due("decode() of a codeword of k = 2", climbing().decode(), NONE);
        // 0 wins three blocks of four, but its score is 0; 1 has the score 0, too.
        NestedCodes y = outvoted();
        due("trial(0)", y.trial(0), 0);
        due("decode() with equal scores", y.decode(), NONE);
        y.flip(3, 1);
        due("decode() with more", y.decode(), 0);
        y.lose(2, 1);
        y.lose(3, 1);
        due("decode() of the only sure block", y.decode(), 1);
        for (int block = 0; block < 4; block++) {
            y.lose(block, 1);
        }
        due("decode() with nothing received", y.decode(), NONE);
    }

    private void p25DecidingTrial() {
        promise(25);
        NestedCodes x = new NestedCodes();
        due("decidingTrial()", x.decidingTrial(), 0);
        due("decidingTrial() without", undecided().decidingTrial(), NONE);
        NestedCodes y = bare(4, 1);
        y.send(9);
        y.lose(0, 1);
        due("of lost, 9, 9, 9", y.decidingTrial(), 0);
        y.lose(1, 1);
        due("of lost, lost, 9, 9", y.decidingTrial(), 1);
        y.lose(2, 1);
        due("of lost, lost, lost, 9", y.decidingTrial(), 3);
        y.lose(3, 1);
        due("of lost only", y.decidingTrial(), NONE);
        // The first trials have a result, but 0 is not lawful.
        NestedCodes z = outvoted();
        z.lose(3, 1);
        due("trial(0)", z.trial(0), 0);
        due("trial(3)", z.trial(3), 1);
        due("decidingTrial()", z.decidingTrial(), 3);
    }

    private void p26Margin() {
        promise(26);
        NestedCodes x = new NestedCodes();
        due("margin()", x.margin(), 18);
        x.flip(0, 1);
        due("margin()", x.margin(), 16);
        x.flip(1, 127);
        due("margin()", x.margin(), 10);
        x.lose(2, 1);
        due("margin()", x.margin(), 7);
        due("margin() without", undecided().margin(), NONE);
        due("margin() of k = 1", with(3, 1).margin(), 9);
        due("margin() of k = 2", with(3, 2).margin(), 6);
        NestedCodes y = bare(4, 3);
        due("margin()", y.margin(), 2);
        y.lose(0, 1);
        due("the least margin", y.margin(), 1);
        y.lose(1, 1);
        due("no margin", y.margin(), NONE);
    }

    private void p27WastedTrials() {
        promise(27);
        NestedCodes x = new NestedCodes();
        due("wastedTrials()", x.wastedTrials(), 0);
        due("wastedTrials() of all", undecided().wastedTrials(), 4);
        NestedCodes y = bare(4, 1);
        y.send(9);
        y.lose(0, 1);
        y.lose(1, 1);
        due("of lost, lost, 9, 9", y.wastedTrials(), 1);
        y.lose(2, 1);
        due("of lost, lost, lost, 9", y.wastedTrials(), 3);
        y.lose(3, 1);
        due("of lost only", y.wastedTrials(), 4);
        // Erasing what is right wastes a trial behind the deciding one: 0, 0, 0, 0, 9.
        NestedCodes z = bare(5, 1);
        z.flip(4, 9);
        due("decidingTrial()", z.decidingTrial(), 0);
        due("trial(3)", z.trial(3), NONE);
        due("trial(4)", z.trial(4), 9);
        due("wastedTrials()", z.wastedTrials(), 2);
    }

    private void p28IsGuaranteed() {
        promise(28);
        NestedCodes x = new NestedCodes();
        due("isGuaranteed()", x.isGuaranteed(), 1);
        x.burst(0, 8);
        due("8 wrong bits of less than 9", x.isGuaranteed(), 1);
        x.burst(8, 1);
        due("9 wrong bits", x.isGuaranteed(), 0);
        NestedCodes y = new NestedCodes();
        for (int block = 0; block < 5; block++) {
            y.lose(block, 1);
        }
        due("5 lost", y.isGuaranteed(), 1);
        y.flip(7, 1);
        due("5 lost and a bit", y.isGuaranteed(), 1);
        y.flip(7, 2);
        due("5 lost and two bits", y.isGuaranteed(), 0);
        y.undo();
        y.undo();
        y.lose(5, 1);
        due("6 lost", y.isGuaranteed(), 0);
        NestedCodes z = new NestedCodes();
        z.burst(0, 9);
        z.lose(0, 1);
        due("wrong bits of lost blocks don't count", z.isGuaranteed(), 1);
    }

    private void p29FragileBits() {
        promise(29);
        due("fragileBits()", new NestedCodes().fragileBits(), 0);
        NestedCodes x = with(4, 3);
        due("fragileBits() at the margin", x.fragileBits(), 0);
        x.lose(0, 1);
        due("margin()", x.margin(), 3);
        due("score 7 is left, more than 6", x.fragileBits(), 0);
        x.flip(1, 1);
        // Of block 1 all bits but the wrong one, of the blocks 2 and 3 all.
        due("score 5 is left", x.fragileBits(), 20);
        x.lose(1, 1);
        due("nothing helps", x.fragileBits(), 14);
        NestedCodes z = doubled(4, 3);
        z.lose(0, 1);
        due("score 4 is left, not more than 4", z.fragileBits(), 24);
        NestedCodes y = bare(3, 1);
        y.send(1);
        y.flip(0, 3);
        y.flip(1, 3);
        due("decode()", y.decode(), 2);
        due("another message than the one sent", y.fragileBits(), 12);
        y.flip(1, 1);
        due("decode() of 2, 3, 1", y.decode(), NONE);
        due("bits that would mend it", y.fragileBits(), 11);
        due("a question is no change", y.count(6), 6);
        for (int block = 0; block < 3; block++) {
            y.lose(block, 1);
        }
        due("no bits", y.fragileBits(), 0);
    }

    private void p30FragileBlocks() {
        promise(30);
        due("fragileBlocks()", new NestedCodes().fragileBlocks(), 0);
        NestedCodes x = with(4, 3);
        due("score 9 is left, more than 6", x.fragileBlocks(), 0);
        x.lose(0, 1);
        due("score 6 is left, but for the lost one", x.fragileBlocks(), 3);
        x.lose(1, 1);
        due("lost ones count, too", x.fragileBlocks(), 4);
        NestedCodes y = bare(3, 1);
        y.send(1);
        y.flip(0, 3);
        y.flip(1, 3);
        due("another message than the one sent", y.fragileBlocks(), 3);
        y.flip(1, 1);
        due("2, 3, 1", y.fragileBlocks(), 3);
        y.flip(1, 2);
        due("2, 1, 1", y.fragileBlocks(), 2);
        y.lose(0, 1);
        due("lost, 1, 1", y.fragileBlocks(), 0);
        due("a question is no change", y.count(6), 6);
    }

    private void p31Nearest() {
        promise(31);
        NestedCodes x = new NestedCodes();
        due("nearest(0)", x.nearest(0), 6);
        due("nearest(1)", x.nearest(1), 273);
        due("nearest(2)", x.nearest(2), INVALID);
        due("nearest(-1)", x.nearest(-1), INVALID);
        due("nearest(least)", x.nearest(LEAST), INVALID);
        due("nearest(greatest)", x.nearest(GREATEST), INVALID);
        x.send(273);
        due("nearest(1) of 273", x.nearest(1), 0);
        // The polynomial x^2 + x + 1, which takes 274 to 3, is 0 at 6 and 7.
        x.send(274);
        due("nearest(1) of 274", x.nearest(1), 3);
        NestedCodes y = with(12, 2);
        due("nearest(0)", y.nearest(0), 11);
        due("nearest(1)", y.nearest(1), 17);
        NestedCodes z = with(5, 1);
        due("nearest(0)", z.nearest(0), 5);
        due("nearest(1)", z.nearest(1), 1);
        z.send(7);
        due("nearest(1)", z.nearest(1), 0);
        NestedCodes failing = undecided();
        due("nearest(0) without", failing.nearest(0), NONE);
        due("nearest(1) without", failing.nearest(1), NONE);
        due("nearest(2) without", failing.nearest(2), INVALID);
    }
}
