/**
 * Boundary cases of decoding: the section Trials and the law, and the promises 21 to 31. Each test
 * names the promise or section and the sentence that it stands for.
 */
public final class DecodingBoundaryTests extends TestCase {
    public static void main(String[] args) {
        DecodingBoundaryTests tests = new DecodingBoundaryTests();
        tests.trial();
        tests.trialErases();
        tests.trialBound();
        tests.score();
        tests.law();
        tests.allBlocksLost();
        tests.decodingFails();
        tests.decode();
        tests.decidingTrial();
        tests.margin();
        tests.wastedTrials();
        tests.guaranteedBits();
        tests.guaranteedBlocks();
        tests.fragileBits();
        tests.fragileBitsOfWrongBlocks();
        tests.fragileBlocks();
        tests.nearest();
        tests.nearestLowest();
        tests.check.finish();
    }

    /** Each block has a symbol, or is lost if the number is negative; 0 was sent. */
    private static NestedCodes symbols(int k, int... symbols) {
        NestedCodes x = bare(symbols.length, k);
        for (int block = 0; block < symbols.length; block++) {
            if (symbols[block] < 0) {
                x.lose(block, 1);
            } else if (symbols[block] > 0) {
                x.flip(block, symbols[block]);
            }
        }
        return x;
    }

    // ---- Promise 21, Trials

    private void trial() {
        promise(21, "`s`: 0 to D - 1");
        int[][] codes = {{3, 2}, {4, 3}, {3, 1}, {8, 3}, {12, 3}, {12, 1}};
        for (int[] code : codes) {
            int distance = code[0] - code[1] + 1;
            Start start = () -> with(code[0], code[1]);
            for (int wrong : new int[] {-1, distance, LEAST, GREATEST}) {
                refused(start, "trial(" + wrong + ") of D = " + distance, INVALID, x -> x.trial(wrong));
                refused(() -> lost(start.make()), "trial(" + wrong + ") of lost blocks", INVALID,
                    x -> x.trial(wrong));
            }
            NestedCodes y = start.make();
            y.send(11);
            due("trial(0) of D = " + distance, y.trial(0), 11);
            due("trial(D - 1) of D = " + distance, y.trial(distance - 1), 11);
        }
        promise(21, "NOT_FOUND if the trial fails");
        Start failing = () -> symbols(1, 8, 8, 9, 9);
        refused(failing, "trial(0) of 8, 8, 9, 9", NONE, x -> x.trial(0));
        section("Changes and errors", "LIMIT_REACHED rather than NOT_FOUND");
        refused(failing, "trial(4) of 8, 8, 9, 9", INVALID, x -> x.trial(4));
        refused(failing, "trial(-1) of 8, 8, 9, 9", INVALID, x -> x.trial(-1));
    }

    private void trialErases() {
        section("Trials and the law",
            "In trial s, for s from 0 to D - 1, the first s blocks of the order are erased.");
        NestedCodes x = symbols(1, 7, 9, 9, 9);
        due("none is erased", x.trial(0), 9);
        NestedCodes y = symbols(1, 9, 9, 9, 7);
        due("all but the last are erased", y.trial(3), 7);
        y.lose(3, 1);
        due("the last is erased first", y.trial(1), 9);
        due("then all but the one before", y.trial(3), 9);
        y.flip(2, 9 ^ 6);
        due("the one before the last is 6", y.trial(3), 6);
        // With D - 1 erased, k blocks are left, and a codeword fits k symbols whatever they are.
        NestedCodes z = symbols(3, 1, 2, 3, 4, 5, 6);
        int last = z.trial(3);
        for (int block = 3; block < 6; block++) {
            due("symbol of the three last blocks", z.symbolFor(last, block), block + 1);
        }
    }

    private void trialBound() {
        section("Trials and the law", "Its result is the codeword for which 2 * e + s is less than D");
        due("2 * 1 + 0 of 3", symbols(1, 9, 0, 0).trial(0), 0);
        due("2 * 1 + 0 of 2", symbols(2, 9, 0, 0).trial(0), NONE);
        due("2 * 0 + 1 of 2", symbols(2, 9, 0, 0).trial(1), 0);
        due("2 * 2 + 0 of 5", symbols(1, 8, 9, 0, 0, 0).trial(0), 0);
        due("2 * 2 + 0 of 4", symbols(1, 8, 9, 0, 0).trial(0), NONE);
        due("2 * 1 + 1 of 4", symbols(1, 8, 9, 0, 0).trial(1), 0);
        due("2 * 2 + 1 of 5", symbols(1, 0, 8, 9, 0, 0).trial(1), NONE);
        due("2 * 1 + 2 of 5", symbols(1, 0, 8, 9, 0, 0).trial(2), 0);
        due("2 * 0 + 3 of 4, the greatest s", symbols(1, 8, 8, 8, 0).trial(3), 0);
        due("2 * 5 + 1 of 12", symbols(1, 0, 8, 8, 8, 8, 8, 0, 0, 0, 0, 0, 0).trial(1), 0);
        due("2 * 5 + 2 of 12", symbols(1, 0, 0, 8, 8, 8, 8, 8, 0, 0, 0, 0, 0).trial(2), NONE);
        section("Trials and the law", "if there is none, the trial fails");
        NestedCodes x = symbols(1, 1, 2, 3, 4, 5);
        due("all differ: trial(0)", x.trial(0), NONE);
        due("all differ: trial(3)", x.trial(3), NONE);
        due("all differ: trial(4)", x.trial(4), 5);
    }

    // ---- Promise 22

    private void score() {
        promise(22, "`message`: as for symbolFor");
        for (int k = 1; k <= 3; k++) {
            int above = 1 << 4 * k;
            int dimension = k;
            Start start = () -> with(12, dimension);
            for (int wrong : new int[] {-1, above, LEAST, GREATEST}) {
                refused(start, "score(" + wrong + ") for " + k, INVALID, x -> x.score(wrong));
                refused(() -> lost(start.make()), "score(" + wrong + ") of lost blocks", INVALID,
                    x -> x.score(wrong));
            }
            NestedCodes y = start.make();
            due("score(0) for " + k, y.score(0), 36);
            y.send(above - 1);
            due("score of the greatest for " + k, y.score(above - 1), 36);
            due("score(0) for " + k + ", " + (above - 1) + " received", y.score(0) < 0 ? 1 : 0, 1);
        }
        promise(22, "Returns the score, possibly negative");
        due("the greatest", wide(12, 1).score(0), 48);
        due("the least", wide(12, 1).score(15), -48);
        section("Trials and the law",
            "the sum, over all blocks, of the reliability of the block, taken negative if its symbol"
            + " differs from that of the codeword");
        due("none differs", symbols(1, 0, 0, 0).score(0), 3);
        due("the last differs", symbols(1, 0, 0, 9).score(0), 1);
        due("the first differs", symbols(1, 9, 0, 0).score(0), 1);
        due("all differ", symbols(1, 9, 9, 9).score(0), -3);
        due("all are lost", symbols(1, -1, -1, -1).score(0), 0);
        due("all are lost, another codeword", symbols(1, -1, -1, -1).score(9), 0);
    }

    // ---- Trials and the law: the law, promise 23

    private void law() {
        section("Trials and the law", "A codeword is lawful if its score is greater than d * (n - D).");
        due("3 of 1", symbols(2, 0, 0, 0).lawful(), 1);
        due("2 of 1", symbols(2, -1, 0, 0).lawful(), 1);
        due("1 of 1", symbols(2, -1, -1, 0).lawful(), 0);
        due("1 of 0, the least bound", symbols(1, -1, -1, 0).lawful(), 1);
        due("0 of 0", symbols(1, 0, 0, 9, 9).lawful(), 0);
        due("3 of 2", symbols(3, 0, 0, 0, -1).lawful(), 1);
        due("2 of 2", symbols(3, 0, 0, -1, -1).lawful(), 0);
        NestedCodes x = with(4, 3);
        x.lose(3, 1);
        due("9 of 6", x.lawful(), 1);
        x.flip(0, 64);
        due("7 of 6", x.lawful(), 1);
        x.flip(1, 1);
        due("5 of 6", x.lawful(), 0);
        promise(23, "Returns the number of lawful codewords.");
        due("no reliable block", symbols(1, -1, -1, -1).lawful(), 0);
        due("the greatest D", wide(12, 1).lawful(), 1);
        due("the least D", wide(3, 2).lawful(), 1);
        NestedCodes y = with(12, 3);
        y.send(4095);
        due("the greatest message", y.lawful(), 1);
    }

    // ---- all blocks lost, decoding fails

    private void allBlocksLost() {
        int[][] codes = {{3, 1}, {3, 2}, {8, 3}, {12, 1}, {12, 3}};
        for (int[] code : codes) {
            int n = code[0];
            int distance = n - code[1] + 1;
            NestedCodes x = with(n, code[1]);
            x.send(15);
            lost(x);
            section("Received", "A lost block has the symbol 0, the gap 0 and the reliability 0");
            for (int s = 0; s < distance; s++) {
                due("trial(" + s + ") of n = " + n, x.trial(s), 0);
            }
            due("score(0)", x.score(0), 0);
            due("score(15)", x.score(15), 0);
            due("lawful()", x.lawful(), 0);
            section("Trials and the law", "if there is none, decoding fails");
            due("decode()", x.decode(), NONE);
            due("decidingTrial()", x.decidingTrial(), NONE);
            due("margin()", x.margin(), NONE);
            due("wastedTrials()", x.wastedTrials(), distance);
            due("isGuaranteed()", x.isGuaranteed(), 0);
            due("fragileBits()", x.fragileBits(), 0);
            due("fragileBlocks()", x.fragileBlocks(), n);
            due("nearest(0)", x.nearest(0), NONE);
            due("nearest(1)", x.nearest(1), NONE);
            due("sendCascade()", x.sendCascade(), IMPOSSIBLE);
        }
    }

    private void decodingFails() {
        Start[] failing = {
            TestCase::undecided,
            () -> lost(with(12, 3)),
            () -> symbols(1, 8, 8, 9, 9),
            () -> symbols(2, 0, 0, 9),
            DecodingBoundaryTests::unlawful
        };
        for (int i = 0; i < failing.length; i++) {
            Start start = failing[i];
            promise(24, "NOT_FOUND if decoding fails");
            refused(start, "decode(), failing " + i, NONE, x -> x.decode());
            promise(25, "NOT_FOUND if decoding fails");
            refused(start, "decidingTrial(), failing " + i, NONE, x -> x.decidingTrial());
            promise(26, "NOT_FOUND if decoding fails");
            refused(start, "margin(), failing " + i, NONE, x -> x.margin());
            promise(31, "NOT_FOUND if decoding fails");
            refused(start, "nearest(0), failing " + i, NONE, x -> x.nearest(0));
            refused(start, "nearest(1), failing " + i, NONE, x -> x.nearest(1));
            section("Changes and errors", "LIMIT_REACHED rather than NOT_FOUND");
            refused(start, "nearest(-1), failing " + i, INVALID, x -> x.nearest(-1));
            refused(start, "nearest(2), failing " + i, INVALID, x -> x.nearest(2));
            promise(27, "Counts the trials that fail or whose results are not lawful.");
            due("wastedTrials(), failing " + i, start.make().wastedTrials(), start.make().count(2));
        }
    }

    /** All trials but the last result in 0, which is not lawful: 3 against 1 + 1 + 1. */
    private static NestedCodes unlawful() {
        NestedCodes x = with(4, 1);
        x.flip(3, 49);
        x.flip(0, 1);
        x.flip(1, 1);
        x.flip(2, 1);
        return x;
    }

    // ---- Promises 24 to 27

    private void decode() {
        promise(24, "Returns the decoded message, as for symbolFor");
        for (int k = 1; k <= 3; k++) {
            int greatest = (1 << 4 * k) - 1;
            for (int n = k + 1; n <= 12; n++) {
                if (n >= 3) {
                    NestedCodes x = with(n, k);
                    due("the least of " + n + " and " + k, x.decode(), 0);
                    x.send(greatest);
                    due("the greatest of " + n + " and " + k, x.decode(), greatest);
                    x.send(greatest - 1);
                    due("the one before of " + n + " and " + k, x.decode(), greatest - 1);
                }
            }
        }
        section("Trials and the law", "The first trial whose result is lawful gives the decoded codeword");
        due("trial(0) of the unlawful", unlawful().trial(0), 0);
        due("trial(3) of the unlawful", unlawful().trial(3), 1);
        due("decode() with 3 against 3", unlawful().decode(), NONE);
        NestedCodes x = unlawful();
        x.flip(2, 1);
        due("decode() with 3 against 5", x.decode(), 0);
        x.lose(2, 1);
        due("decode() with 3 against 2", x.decode(), 1);
    }

    private void decidingTrial() {
        section("Trials and the law",
            "Decoding makes the trials s = 0, 1, 2, and so on up to D - 1.");
        due("the first", with(12, 1).decidingTrial(), 0);
        int[][] codes = {{3, 1}, {4, 1}, {12, 1}};
        for (int[] code : codes) {
            NestedCodes x = with(code[0], code[1]);
            x.send(9);
            lost(x);
            x.lose(0, 0);
            due("the last of D = " + code[0], x.decidingTrial(), code[0] - 1);
            promise(25, "Returns the number of the trial that gives the decoded codeword");
            due("it gives it", x.trial(code[0] - 1), 9);
            due("the one before does not", x.trial(code[0] - 2) == 9 ? 1 : 0, 0);
        }
        NestedCodes y = symbols(3, 0, 0, 0, -1);
        y.send(273);
        y.lose(3, 1);
        due("D = 2, the last", y.decidingTrial(), 1);
        y.lose(3, 0);
        due("D = 2, the first", y.decidingTrial(), 0);
        NestedCodes z = unlawful();
        z.lose(2, 1);
        due("results that are not lawful don't count", z.decidingTrial(), 3);
    }

    private void margin() {
        promise(26, "Returns the score of the decoded codeword minus d * (n - D)");
        due("the greatest", wide(12, 1).margin(), 48);
        due("without wrong bits, d * D", with(12, 3).margin(), 30);
        due("d * D of the least D", with(3, 2).margin(), 6);
        due("d * D of the least d", bare(3, 2).margin(), 2);
        due("the least, of bound 1", symbols(2, -1, 0, 0).margin(), 1);
        due("the least, of bound 0", symbols(1, -1, -1, 0).margin(), 1);
        due("margin 0 is none", symbols(2, -1, -1, 0).margin(), NONE);
        NestedCodes x = with(4, 3);
        x.lose(3, 1);
        x.flip(0, 1);
        due("7 minus 6", x.margin(), 1);
    }

    private void wastedTrials() {
        promise(27, "Returns the number of trials.");
        due("none", with(12, 1).wastedTrials(), 0);
        due("none of two", with(3, 2).wastedTrials(), 0);
        NestedCodes x = with(12, 1);
        x.send(9);
        lost(x);
        x.lose(11, 0);
        due("all but the last", x.wastedTrials(), 11);
        x.lose(11, 1);
        due("all", x.wastedTrials(), 12);
        due("all of two", lost(with(3, 2)).wastedTrials(), 2);
        due("those behind the deciding one", symbols(1, 0, 0, 0, 0, 9).wastedTrials(), 2);
        NestedCodes y = unlawful();
        y.lose(2, 1);
        due("those whose results are not lawful", y.wastedTrials(), 3);
    }

    // ---- Promise 28

    private void guaranteedBits() {
        promise(28, "Returns 1 if 2 times count(8) plus d times count(7) is less than d * D"
            + " (then decoding gives what was sent), otherwise 0.");
        guaranteed(() -> bare(3, 1), 1);
        guaranteed(() -> bare(4, 1), 1);
        guaranteed(() -> bare(3, 2), 0);
        guaranteed(() -> doubled(5, 2), 3);
        guaranteed(() -> with(3, 2), 2);
        guaranteed(() -> with(12, 3), 14);
        guaranteed(() -> wide(12, 1), 23);
        guaranteed(() -> wide(12, 3), 19);
    }

    /** The greatest number of wrong bits that is guaranteed, and one more, wherever they are. */
    private void guaranteed(Start start, int most) {
        int places = start.make().count(0) * start.make().count(3);
        for (int place = 0; place + most + 1 <= places; place++) {
            NestedCodes x = start.make();
            x.send(11);
            if (most > 0) {
                x.burst(place, most);
            }
            due(most + " wrong bits from " + place, x.isGuaranteed(), 1);
            due("decode() of " + most + " wrong bits from " + place, x.decode(), 11);
            x.burst(place + most, 1);
            due(most + 1 + " wrong bits from " + place, x.isGuaranteed(), 0);
        }
    }

    private void guaranteedBlocks() {
        promise(28, "2 times count(8) plus d times count(7) is less than d * D");
        int[][] codes = {{3, 2}, {3, 1}, {8, 3}, {12, 1}, {12, 3}};
        for (int[] code : codes) {
            int distance = code[0] - code[1] + 1;
            NestedCodes x = with(code[0], code[1]);
            x.send(11);
            for (int block = 0; block < distance - 1; block++) {
                x.lose(block, 1);
            }
            due("D - 1 lost", x.isGuaranteed(), 1);
            due("decode()", x.decode(), 11);
            x.flip(code[0] - 1, 1);
            due("D - 1 lost and a bit", x.isGuaranteed(), 1);
            due("decode()", x.decode(), 11);
            x.flip(code[0] - 1, 2);
            due("D - 1 lost and two bits", x.isGuaranteed(), 0);
            x.flip(code[0] - 1, 3);
            x.lose(distance - 1, 1);
            due("D lost", x.isGuaranteed(), 0);
        }
        promise(7, "lost blocks not counted");
        NestedCodes y = wide(12, 1);
        y.burst(0, 110);
        for (int block = 0; block < 11; block++) {
            y.lose(block, 1);
        }
        due("all wrong bits are in lost blocks", y.isGuaranteed(), 1);
        y.lose(0, 0);
        due("a block with ten of them is back", y.isGuaranteed(), 0);
    }

    // ---- Promise 29

    private void fragileBits() {
        promise(29, "Counts the bits of blocks that are not lost with this property");
        due("none", wide(12, 1).fragileBits(), 0);
        due("all, of d = 1 and D = 2", bare(4, 3).fragileBits(), 16);
        due("all but those that tell nothing", loose(3, 2).fragileBits(), 12);
        NestedCodes x = loose(3, 2);
        x.lose(2, 1);
        due("all of the two blocks that are not lost", x.fragileBits(), 20);
        x.lose(0, 1);
        due("all of the last block", x.fragileBits(), 10);
        x.lose(1, 1);
        due("no block", x.fragileBits(), 0);
        NestedCodes y = with(4, 3);
        due("score 12, 10 with a wrong bit, of 6", y.fragileBits(), 0);
        y.flip(0, 1);
        y.flip(3, 64);
        // A second wrong bit in a block takes 2 or 4 off the score 8, a first one takes 2.
        due("score 8, 6 with a wrong bit, of 6", y.fragileBits(), 26);
        promise(29, "if this bit alone of all received words were changed, decoding would fail,"
            + " or give another message than the one that was sent");
        NestedCodes z = symbols(1, 2, 2, 2);
        due("it gives another already", z.fragileBits(), 12);
        due("a question changes nothing", z.received(2) * 10 + z.decode(), 22);
    }

    private void fragileBitsOfWrongBlocks() {
        promise(29, "if this bit alone of all received words were changed, decoding would fail");
        due("0, 0, 0, 9, 9: those of the right blocks", symbols(1, 0, 0, 0, 9, 9).fragileBits(), 12);
        due("0, 0, 0, 0, 9: none", symbols(1, 0, 0, 0, 0, 9).fragileBits(), 0);
        due("0, 0, 9, 9: it fails already", symbols(1, 0, 0, 9, 9).fragileBits(), 16);
        due("8, 9, 0, 0: all but one that mends it", symbols(1, 8, 9, 0, 0).fragileBits(), 15);
        due("9, 0, 0, 8: all but the very last bit", symbols(1, 9, 0, 0, 8).fragileBits(), 15);
        due("9, 0, 0, 1: all but the last block's first", symbols(1, 9, 0, 0, 1).fragileBits(), 15);
        due("9, 9, 0, 1: all, no bit is enough", symbols(1, 9, 9, 0, 1).fragileBits(), 16);
        due("lost, lost, 0: all", symbols(1, -1, -1, 0).fragileBits(), 4);
        due("lost, 0, 1: all but one", symbols(1, -1, 0, 1).fragileBits(), 7);
    }

    // ---- Promise 30

    private void fragileBlocks() {
        promise(30, "if this block were lost (too), decoding would fail, or give another message"
            + " than the one that was sent");
        due("none", wide(12, 1).fragileBlocks(), 0);
        due("0, 0, 0, 9: none", symbols(1, 0, 0, 0, 9).fragileBlocks(), 0);
        due("0, 0, 0, 9, 9: the right ones", symbols(1, 0, 0, 0, 9, 9).fragileBlocks(), 3);
        due("0, 0, 9, 9: the right ones", symbols(1, 0, 0, 9, 9).fragileBlocks(), 2);
        due("0, 0, 9, 9, 9: all", symbols(1, 0, 0, 9, 9, 9).fragileBlocks(), 5);
        due("2, 2, 2 for 0: all", symbols(1, 2, 2, 2).fragileBlocks(), 3);
        due("score 3, then 2, of 1", symbols(2, 0, 0, 0).fragileBlocks(), 0);
        due("score 4, then 3, of 2", symbols(3, 0, 0, 0, 0).fragileBlocks(), 0);
        promise(30, "Blocks that are lost already count if it is so now.");
        due("lost, 0, 0: not so now", symbols(1, -1, 0, 0).fragileBlocks(), 0);
        due("lost, lost, 0: not so now", symbols(1, -1, -1, 0).fragileBlocks(), 1);
        due("lost, 0, 0 of 1: not so now", symbols(2, -1, 0, 0).fragileBlocks(), 2);
        due("lost, lost, 0 of 1: so now", symbols(2, -1, -1, 0).fragileBlocks(), 3);
        due("lost, 0, 9: the wrong one alone would mend it", symbols(1, -1, 0, 9).fragileBlocks(), 2);
        due("all lost: so now", symbols(1, -1, -1, -1).fragileBlocks(), 3);
        due("all of twelve lost", lost(wide(12, 3)).fragileBlocks(), 12);
    }

    // ---- Promise 31

    private void nearest() {
        promise(31, "`what`: 0: the number of blocks; 1: the message");
        for (int wrong : new int[] {-1, 2, LEAST, GREATEST}) {
            refused("nearest(" + wrong + ")", INVALID, x -> x.nearest(wrong));
            refused(() -> wide(12, 1), "nearest(" + wrong + ")", INVALID, x -> x.nearest(wrong));
        }
        due("nearest(0), the least D", with(3, 2).nearest(0), 2);
        due("nearest(0), the greatest D", with(12, 1).nearest(0), 12);
        due("nearest(1), the greatest D", with(12, 1).nearest(1), 1);
    }

    private void nearestLowest() {
        promise(31, "Returns the least number of blocks in which a codeword other than that of the"
            + " decoded message differs from it, and the lowest message with this number of differences.");
        NestedCodes x = with(12, 1);
        for (int message = 0; message < 16; message++) {
            x.send(message);
            due("nearest(1) of " + message, x.nearest(1), message == 0 ? 1 : 0);
        }
        NestedCodes y = with(3, 2);
        due("1 + x is 0 at 1, so 17 is the lowest", y.nearest(1), 17);
        y.send(17);
        due("of 17 it is 0", y.nearest(1), 0);
        y.send(1);
        due("of 1 it is 16, that is, 1 + 17", y.nearest(1), 16);
        y.send(255);
        due("of 255, which is 0 at 1", y.nearest(1), 0);
        NestedCodes z = with(4, 1);
        z.send(5);
        z.flip(0, 127);
        due("that of the decoded message, whatever was received", z.nearest(1), 0);
        NestedCodes w = with(4, 1);
        w.send(1);
        w.burst(0, 28);
        due("that of the decoded message, whatever was sent", w.decode() * 10 + w.nearest(1), 140);
    }
}
